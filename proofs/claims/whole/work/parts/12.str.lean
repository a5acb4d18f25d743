/-! String constants: length and charAt, through the JDK's own code. -/
section JS
variable {d bc bs i pc : Nat} {lv : List (Option Value)} {st : List Value} {h : jx_H} {Q : Option Value → jx_H → Prop}
theorem jx_adS (G : jx_G) (e : Nat) : jx_ad G (1000000 + e) = jg_x G e := by
  unfold jx_ad
  rw [if_neg (by omega), if_neg (by omega), Nat.add_sub_cancel_left]
theorem jx_outA {G : jx_G} {H : Heap} (r : jx_Rel G h H) : ∀ a : Nat, a < (jg_H G).size → ¬ jg_A G a → H[a]? = (jg_H G)[a]? := fun a ha _ => r.2.1 a (by rw [← r.1.1]; exact ha)
theorem je_sgetv {x e : Nat} {q : Nat × Nat × String × List Int32} (hd : decode (jm_b i) pc = .ok (.getfield x, 3)) (hl : Cond.fieldLink (jn_R (jm_o i)) x "java/lang/String" "value" "[B" ∈ jx_T) (hq : jx_strs[e]? = some (e, q)) (k : jx_Ev d bc bs i (pc + 3) lv (.ref (1000000 + (500 + e)) :: st) h Q) : jx_Ev d bc bs i pc lv (.ref (1000000 + e) :: st) h Q := by
  refine je_gen (fun {p l e' R s m args below meth c H locs cells slots Z G ls} F r hl' _ k => ?_) k
  obtain ⟨-, -, -, h4, -⟩ := F.2.1.2.2.2.2.2.2.2.1 _ (List.mem_of_getElem? hq)
  obtain ⟨cf, kc, fi, f, cell, g1, g2, g3, g4, g5, -⟩ := h4.kept (jx_outA r)
  show W _ _ _ _ _ _ _ _ _ _ _ _ _ _ _ (F0 m pc ls (.ref (jx_ad G (1000000 + e)) :: st.map (jx_cv G)))
  rw [jx_adS]
  refine W.getf F.1.1 F.1.2.1 F.2.1.1 (F.2.1.2.1 _ hl) g1 g2 g3 g4 (v := .ref (jg_x G (500 + e))) g5 rfl rfl hd ?_
  have k' : W p l e' R s m args below meth c H locs cells slots Z (F0 m (pc + 3) ls (.ref (jx_ad G (1000000 + (500 + e))) :: st.map (jx_cv G))) := k
  rw [jx_adS] at k'
  exact k'
theorem je_sgetc {x e : Nat} {q : Nat × Nat × String × List Int32} (hd : decode (jm_b i) pc = .ok (.getfield x, 3)) (hl : Cond.fieldLink (jn_R (jm_o i)) x "java/lang/String" "coder" "B" ∈ jx_T) (hq : jx_strs[e]? = some (e, q)) (k : jx_Ev d bc bs i (pc + 3) lv (.int 0 :: st) h Q) : jx_Ev d bc bs i pc lv (.ref (1000000 + e) :: st) h Q := by
  refine je_gen (fun {p l e' R s m args below meth c H locs cells slots Z G ls} F r hl' _ k => ?_) k
  obtain ⟨-, -, h4, -, -⟩ := F.2.1.2.2.2.2.2.2.2.1 _ (List.mem_of_getElem? hq)
  obtain ⟨cf, kc, fi, f, cell, g1, g2, g3, g4, g5, -⟩ := h4.kept (jx_outA r)
  show W _ _ _ _ _ _ _ _ _ _ _ _ _ _ _ (F0 m pc ls (.ref (jx_ad G (1000000 + e)) :: st.map (jx_cv G)))
  rw [jx_adS]
  exact W.getf F.1.1 F.1.2.1 F.2.1.1 (F.2.1.2.1 _ hl) g1 g2 g3 g4 (v := .int 0) g5 rfl rfl hd k
theorem je_sgets {x : Nat} (hd : decode (jm_b i) pc = .ok (.getstatic x, 3)) (hl : Cond.fieldLink (jn_R (jm_o i)) x "java/lang/String" "COMPACT_STRINGS" "Z" ∈ jx_T) (k : jx_Ev d bc bs i (pc + 3) lv (.int 1 :: st) h Q) : jx_Ev d bc bs i pc lv st h Q := by
  refine je_gen (fun {p l e' R s m args below meth c H locs cells slots Z G ls} F r hl' _ k => ?_) k
  obtain ⟨cf, kf, fi, f, a, cell, g1, g2, g3, g4, g5, g6, g7, -⟩ := (F.2.1.2.2.2.2.2.2.2.2.1).kept (jx_outA r)
  exact W.gets F.1.1 F.1.2.1 F.2.1.1 (F.2.1.2.1 _ hl) g1 g2 g3 g4 g5 (by intro hv; rw [hv] at g6; cases g6) (v := .int 1) g7 rfl hd k
theorem je_sgetf {x : Nat} (hd : decode (jm_b i) pc = .ok (.getstatic x, 3)) (hl : Cond.fieldLink (jn_R (jm_o i)) x "jdk/internal/util/Preconditions" "SIOOBE_FORMATTER" "Ljava/util/function/BiFunction;" ∈ jx_T) (k1 : jx_Ev d bc bs i (pc + 3) lv (.null :: st) h Q) (k2 : jx_Ev d bc bs i (pc + 3) lv (.ref (1000000 + 999) :: st) h Q) : jx_Ev d bc bs i pc lv st h Q := by
  intro p l e R s m args below meth c G H locs cells slots ls Z F r hlv ho hcs hr
  rcases F.2.1.2.2.2.2.2.2.2.2.2 with z | z
  · obtain ⟨cf, kf, fi, f, a, cell, g1, g2, g3, g4, g5, g6, g7, -⟩ := z.kept (jx_outA r)
    exact W.gets F.1.1 F.1.2.1 F.2.1.1 (F.2.1.2.1 _ hl) g1 g2 g3 g4 g5 (by intro hv; rw [hv] at g6; cases g6) (v := .null) g7 rfl hd (k1 p l e R s m args below meth c G H locs cells slots ls Z F r hlv ho hcs hr)
  · obtain ⟨cf, kf, fi, f, a, cell, g1, g2, g3, g4, g5, g6, g7, -⟩ := z.kept (jx_outA r)
    have k' := k2 p l e R s m args below meth c G H locs cells slots ls Z F r hlv ho hcs hr
    have e2 : (Value.ref (1000000 + 999) :: st).map (jx_cv G) = .ref (jg_x G 999) :: st.map (jx_cv G) := by
      show Value.ref (jx_ad G (1000000 + 999)) :: _ = _
      rw [jx_adS]
    rw [e2] at k'
    exact W.gets F.1.1 F.1.2.1 F.2.1.1 (F.2.1.2.1 _ hl) g1 g2 g3 g4 g5 (by intro hv; rw [hv] at g6; cases g6) (v := .ref (jg_x G 999)) g7 rfl hd k'
theorem je_sblen {e : Nat} {q : Nat × Nat × String × List Int32} (hd : decode (jm_b i) pc = .ok (.arraylength, 1)) (hq : jx_strs[e]? = some (e, q)) (k : jx_Ev d bc bs i (pc + 1) lv (.int (Int32.ofNat q.2.2.2.length) :: st) h Q) : jx_Ev d bc bs i pc lv (.ref (1000000 + (500 + e)) :: st) h Q := by
  refine je_gen (fun {p l e' R s m args below meth c H locs cells slots Z G ls} F r hl' _ k => ?_) k
  obtain ⟨-, -, -, -, h5⟩ := F.2.1.2.2.2.2.2.2.2.1 _ (List.mem_of_getElem? hq)
  obtain ⟨cell, g1, g2, g3, g4, g5, g6, -⟩ := h5.kept (jx_outA r)
  show W _ _ _ _ _ _ _ _ _ _ _ _ _ _ _ (F0 m pc ls (.ref (jx_ad G (1000000 + (500 + e))) :: st.map (jx_cv G)))
  rw [jx_adS]
  exact W.alen F.1.1 F.1.2.1 g1 g2 g5 rfl rfl hd k
theorem je_sbald {e : Nat} {q : Nat × Nat × String × List Int32} {j : Int32} (hd : decode (jm_b i) pc = .ok (.baload, 1)) (hq : jx_strs[e]? = some (e, q)) (hj : jx_ok j q.2.2.2.length) (k : jx_Ev d bc bs i (pc + 1) lv (.int (q.2.2.2.getD j.toNatClampNeg 0) :: st) h Q) : jx_Ev d bc bs i pc lv (.int j :: .ref (1000000 + (500 + e)) :: st) h Q := by
  refine je_gen (fun {p l e' R s m args below meth c H locs cells slots Z G ls} F r hl' _ k => ?_) k
  obtain ⟨-, -, -, -, h5⟩ := F.2.1.2.2.2.2.2.2.2.1 _ (List.mem_of_getElem? hq)
  obtain ⟨cell, g1, g2, g3, g4, g5, g6, -⟩ := h5.kept (jx_outA r)
  show W _ _ _ _ _ _ _ _ _ _ _ _ _ _ _ (F0 m pc ls (.int j :: .ref (jx_ad G (1000000 + (500 + e))) :: st.map (jx_cv G)))
  rw [jx_adS]
  have hlt : j.toNatClampNeg < q.2.2.2.length := Nat.not_le.mp fun z => hj (Or.inr z)
  exact W.bald (v := .int (q.2.2.2.getD j.toNatClampNeg 0)) F.1.1 F.1.2.1 g1 g2 g3 (fun z => z.elim (fun y => hj (Or.inl y)) (fun y => by have := Nat.le_trans g4 y; dsimp only at this; omega)) (g6 _ hlt) rfl rfl hd k
theorem je_i2c {x v : Int32} (hd : decode (jm_b i) pc = .ok (.i2c, 1)) (hv : (x.toUInt32 % 65536).toInt32 = v) (k : jx_Ev d bc bs i (pc + 1) lv (.int v :: st) h Q) : jx_Ev d bc bs i pc lv (.int x :: st) h Q := je_gen (fun F _ hl _ k => lv_i2c F.1.1 F.1.2.1 hd hv k) k
theorem je_xret {v : Int32} {ty : FieldType} (hd : decode (jm_b i) pc = .ok (.ireturn, 1)) (hr0 : jm_r i = some ty) (hv : narrow ty (.int v) = .int v) (hq : Q (some (.int v)) h) : jx_Ev d bc bs i pc lv [.int v] h Q :=
  fun p l e R s m args below meth c G H locs cells slots ls Z F r hl ho hcs hr => W.widen (by omega) (by omega) (hr (some (.int v)) h H locs pc ls hq r ho ⟨hd, _, hr0, hv⟩)
theorem je_callS {x j n e : Nat} {q : Nat × Nat × String × List Int32} {as st0 : List Value} {Q' : Option Value → jx_H → Prop} (hd : decode (jm_b i) pc = .ok (.invokevirtual x, 3)) (hl : jx_Lv (jm_o i) x j) (hM : jx_M j n) (hn : as.length = n) (hj : (jm_y j).cls = "java/lang/String") (hq : jx_strs[e]? = some (e, q)) (hst : st0 = as.reverse ++ .ref (1000000 + e) :: st) (hs : (st.map fun v => v.category).sum ≤ 8) (t : jx_Tr d 0 0 j (.ref (1000000 + e) :: as) h Q') (k : ∀ r h', Q' r h' → jx_Ev (d + 1) bc bs i (pc + 3) lv (r.toList ++ st) h' Q) : jx_Ev (d + 1) bc bs i pc lv st0 h Q := by
  subst hst
  intro p l e' R s m args below meth c G H locs cells slots ls Z F r hlv ho hcs hr
  obtain ⟨-, h2, -, -, -⟩ := F.2.1.2.2.2.2.2.2.2.1 _ (List.mem_of_getElem? hq)
  obtain ⟨cell, g1, g2, g3, -⟩ := h2.kept (jx_outA r)
  refine jx_run (mc := 0) (ms := 0) F hlv ho ⟨by omega, by omega⟩ hr (va_runV (As := as.map (jx_cv G)) (b := jx_ad G (1000000 + e)) (C := (jm_y j).cls) ⟨F.1.1, F.1.2.1, F.1.2.2, F.2.1.1, F.2.1.2.1⟩ (t l G) ⟨jx_CallB F hM hl.1, F.2.1.2.1 _ hl.2.1, F.2.1.2.1 _ hl.2.2.1⟩ ⟨jx_blind G _ h, ⟨cell, by rw [jx_adS]; exact g1, g2, by rw [hj]; exact g3⟩, fun U hU hW => ⟨rfl, by rw [hU]; exact r, F.2.1.2.2.warm hW⟩⟩ rfl (by rw [List.length_map]; exact hn) hlv.2.1 (by simp [jx_cv]) (by show 2 * 0 + _ ≤ 8; rw [jx_cv_sum]; omega) hd ⟨by omega, by omega⟩) k
/-! the five methods -/
theorem jw_sv : Cond.fieldLink (jn_R 17) 9 "java/lang/String" "value" "[B" ∈ jx_T := jx_i8 110 rfl rfl
theorem jw_sc : Cond.fieldLink (jn_R 17) 15 "java/lang/String" "coder" "B" ∈ jx_T := jx_i8 111 rfl rfl
theorem jw_sC : Cond.fieldLink (jn_R 17) 38 "java/lang/String" "COMPACT_STRINGS" "Z" ∈ jx_T := jx_i3 49 rfl rfl
theorem jw_sF : Cond.fieldLink (jn_R 17) 1053 "jdk/internal/util/Preconditions" "SIOOBE_FORMATTER" "Ljava/util/function/BiFunction;" ∈ jx_T := jx_i3 65 rfl rfl
theorem t_Str_coder (d : Nat) {h : jx_H} {e : Nat} {q : Nat × Nat × String × List Int32} (hq : jx_strs[e]? = some (e, q)) : jx_Tr (d + 1) 0 0 17001 [.ref (1000000 + e)] h (fun r h' => r = some (.int 0) ∧ h' = h) := by
  refine jx_tr jM_Str_coder rfl rfl (lv := [some (.ref (1000000 + e))]) rfl ?_
  refine je_sgets d17001_0 jw_sC ?_
  refine je_ifeq 13 d17001_3 (by decide) (fun c => absurd c (by decide)) (fun _ => ?_)
  refine je_aload0 d17001_6 rfl ?_
  refine je_sgetc d17001_7 jw_sc hq ?_
  refine je_goto 14 d17001_10 (by decide) ?_
  exact je_xret d17001_14 rfl (by decide) ⟨rfl, rfl⟩
theorem t_Str_isLatin1 (d : Nat) {h : jx_H} {e : Nat} {q : Nat × Nat × String × List Int32} (hq : jx_strs[e]? = some (e, q)) : jx_Tr (d + 1) 0 0 17003 [.ref (1000000 + e)] h (fun r h' => r = some (.int 1) ∧ h' = h) := by
  refine jx_tr jM_Str_isLatin1 rfl rfl (lv := [some (.ref (1000000 + e))]) rfl ?_
  refine je_sgets d17003_0 jw_sC ?_
  refine je_ifeq 17 d17003_3 (by decide) (fun c => absurd c (by decide)) (fun _ => ?_)
  refine je_aload0 d17003_6 rfl ?_
  refine je_sgetc d17003_7 jw_sc hq ?_
  refine je_ifne 17 d17003_10 (by decide) (fun c => absurd rfl c) (fun _ => ?_)
  refine je_iconst (v := 1) d17003_13 rfl ?_
  refine je_goto 18 d17003_14 (by decide) ?_
  exact je_zret d17003_18 rfl (by decide) ⟨rfl, rfl⟩
theorem t_Pre_checkIndex (d : Nat) {h : jx_H} {k : Nat} {n : Nat} (v : Value) (hk : k < n) (hn : n < 2 ^ 31) (hv : jx_es [.int (nI k), .int (nI n), v] = [some (.int (nI k)), some (.int (nI n)), some v]) : jx_Tr (d + 1) 0 0 20000 [.int (nI k), .int (nI n), v] h (fun r h' => r = some (.int (nI k)) ∧ h' = h) := by
  refine jx_tr jM_Pre_checkIndex rfl (by rw [hv]; rfl) (lv := [some (.int (nI k)), some (.int (nI n)), some v]) (by rw [jx_ent, hv]; rfl) ?_
  refine je_iload0 d20000_0 rfl ?_
  refine je_iflt 9 d20000_1 (by decide) (fun c => absurd c (nI_pos (by omega))) (fun _ => ?_)
  refine je_iload0 d20000_4 rfl ?_
  refine je_iload1 d20000_5 rfl ?_
  refine je_iclt 16 d20000_6 (by decide) (fun _ => ?_) (fun c => absurd (nI_lt hk hn) c)
  refine je_iload0 d20000_16 rfl ?_
  exact je_iret d20000_17 rfl ⟨rfl, rfl⟩
theorem t_Str_checkIndex (d : Nat) {h : jx_H} {k : Nat} {n : Nat} (hk : k < n) (hn : n < 2 ^ 31) : jx_Tr (d + 2) 0 0 17004 [.int (nI k), .int (nI n)] h (fun r h' => r = none ∧ h' = h) := by
  refine jx_tr jM_Str_checkIndex rfl rfl (lv := [some (.int (nI k)), some (.int (nI n))]) rfl ?_
  refine je_iload0 d17004_0 rfl ?_
  refine je_iload1 d17004_1 rfl ?_
  refine je_sgetf d17004_2 jw_sF ?_ ?_
  · refine ju_calls (as := [.int (nI k), .int (nI n), .null]) d17004_5 jL_17_1059 jM_Pre_checkIndex rfl rfl (Nat.le_of_ble_eq_true rfl) (t_Pre_checkIndex d .null hk hn rfl) (fun r h' q => ?_)
    obtain ⟨rfl, rfl⟩ := q
    refine je_pop d17004_8 rfl ?_
    exact je_ret d17004_9 rfl ⟨rfl, rfl⟩
  · refine ju_calls (as := [.int (nI k), .int (nI n), .ref (1000000 + 999)]) d17004_5 jL_17_1059 jM_Pre_checkIndex rfl rfl (Nat.le_of_ble_eq_true rfl) (t_Pre_checkIndex d _ hk hn rfl) (fun r h' q => ?_)
    obtain ⟨rfl, rfl⟩ := q
    refine je_pop d17004_8 rfl ?_
    exact je_ret d17004_9 rfl ⟨rfl, rfl⟩
theorem jx_strs_ok : ∀ q ∈ jx_strs, q.2.2.2.2.length < 16 ∧ ∀ b ∈ q.2.2.2.2, ((b &&& 255).toUInt32 % 65536).toInt32 = b := by decide +kernel
theorem t_Lat_charAt (d : Nat) {h : jx_H} {e k : Nat} {q : Nat × Nat × String × List Int32} (hq : jx_strs[e]? = some (e, q)) (hk : k < q.2.2.2.length) : jx_Tr (d + 3) 0 0 18000 [.ref (1000000 + (500 + e)), .int (nI k)] h (fun r h' => r = some (.int (q.2.2.2.getD k 0)) ∧ h' = h) := by
  have hs := jx_strs_ok _ (List.mem_of_getElem? hq)
  have hn : q.2.2.2.length < 2 ^ 31 := by have := hs.1; dsimp only at this; omega
  refine jx_tr jM_Lat_charAt rfl rfl (lv := [some (.ref (1000000 + (500 + e))), some (.int (nI k))]) rfl ?_
  refine je_iload1 d18000_0 rfl ?_
  refine je_aload0 d18000_1 rfl ?_
  refine je_sblen d18000_2 hq ?_
  refine ju_calls (as := [.int (nI k), .int (nI q.2.2.2.length)]) d18000_3 jL_18_9 jM_Str_checkIndex rfl rfl (Nat.le_of_ble_eq_true rfl) (t_Str_checkIndex d hk hn) (fun r h' w => ?_)
  obtain ⟨rfl, rfl⟩ := w
  refine je_aload0 d18000_6 rfl ?_
  refine je_iload1 d18000_7 rfl ?_
  refine je_sbald d18000_8 hq (vp_in_nI hk hn) ?_
  refine je_sipush (v := 255) d18000_9 rfl ?_
  refine je_iand d18000_12 ?_
  rw [nI_clamp (by omega)]
  have hb : q.2.2.2.getD k 0 ∈ q.2.2.2 := by
    rw [List.getD_eq_getElem?_getD, List.getElem?_eq_getElem hk]
    exact List.getElem_mem hk
  have e2 := hs.2 _ hb
  refine je_i2c d18000_13 e2 ?_
  refine je_xret d18000_14 rfl ?_ ⟨rfl, rfl⟩
  rw [← e2]
  exact pk_nc _
theorem t_Str_charAt (d : Nat) {h : jx_H} {e k : Nat} {q : Nat × Nat × String × List Int32} (hq : jx_strs[e]? = some (e, q)) (hk : k < q.2.2.2.length) : jx_Tr (d + 4) 0 0 17002 [.ref (1000000 + e), .int (nI k)] h (fun r h' => r = some (.int (q.2.2.2.getD k 0)) ∧ h' = h) := by
  have hs := jx_strs_ok _ (List.mem_of_getElem? hq)
  refine jx_tr jM_Str_charAt rfl rfl (lv := [some (.ref (1000000 + e)), some (.int (nI k))]) rfl ?_
  refine je_aload0 d17002_0 rfl ?_
  refine je_callS (as := []) d17002_1 jL_17_492 jM_Str_isLatin1 rfl rfl hq rfl (Nat.le_of_ble_eq_true rfl) (t_Str_isLatin1 (d + 2) hq) (fun r h' w => ?_)
  obtain ⟨rfl, rfl⟩ := w
  refine je_ifeq 16 d17002_4 (by decide) (fun c => absurd c (by decide)) (fun _ => ?_)
  refine je_aload0 d17002_7 rfl ?_
  refine je_sgetv d17002_8 jw_sv hq ?_
  refine je_iload1 d17002_11 rfl ?_
  refine ju_calls (as := [.ref (1000000 + (500 + e)), .int (nI k)]) d17002_12 jL_17_495 jM_Lat_charAt rfl rfl (Nat.le_of_ble_eq_true rfl) (t_Lat_charAt d hq hk) (fun r h' w => ?_)
  obtain ⟨rfl, rfl⟩ := w
  refine je_xret d17002_15 rfl ?_ ⟨rfl, rfl⟩
  have hb : q.2.2.2.getD k 0 ∈ q.2.2.2 := by
    rw [List.getD_eq_getElem?_getD, List.getElem?_eq_getElem hk]
    exact List.getElem_mem hk
  have e2 := hs.2 _ hb
  rw [← e2]
  exact pk_nc _
theorem t_Str_length (d : Nat) {h : jx_H} {e : Nat} {q : Nat × Nat × String × List Int32} (hq : jx_strs[e]? = some (e, q)) : jx_Tr (d + 2) 0 0 17000 [.ref (1000000 + e)] h (fun r h' => r = some (.int (nI q.2.2.2.length)) ∧ h' = h) := by
  have hs := jx_strs_ok _ (List.mem_of_getElem? hq)
  refine jx_tr jM_Str_length rfl rfl (lv := [some (.ref (1000000 + e))]) rfl ?_
  refine je_aload0 d17000_0 rfl ?_
  refine je_sgetv d17000_1 jw_sv hq ?_
  refine je_sblen d17000_4 hq ?_
  refine je_aload0 d17000_5 rfl ?_
  refine je_callS (as := []) d17000_6 jL_17_335 jM_Str_coder rfl rfl hq rfl (Nat.le_of_ble_eq_true rfl) (t_Str_coder d hq) (fun r h' w => ?_)
  obtain ⟨rfl, rfl⟩ := w
  refine je_ishr d17000_9 ?_
  have e0 : Int32.ofNat q.2.2.2.length >>> ((0 : Int32) &&& 31) = nI q.2.2.2.length := by
    have hn : q.2.2.2.length < 2 ^ 31 := by have := hs.1; dsimp only at this; omega
    show nI _ >>> _ = _
    rw [pk_shrN hn _ 0 (by decide)]
    simp
  rw [e0]
  exact je_iret d17000_10 rfl ⟨rfl, rfl⟩
end JS
