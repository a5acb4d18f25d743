/-! a rule told: the class takes signs -/
theorem gD_l {A B : List Int32} {j : Nat} (h : j < A.length) : (A ++ B).getD j 0 = A.getD j 0 := by rw [List.getD_eq_getElem?_getD, List.getD_eq_getElem?_getD, List.getElem?_append_left h]
theorem gD_r {A B : List Int32} {j : Nat} : (A ++ B).getD (A.length + j) 0 = B.getD j 0 := by rw [List.getD_eq_getElem?_getD, List.getD_eq_getElem?_getD, List.getElem?_append_right (by omega), Nat.add_sub_cancel_left]
/-- where the class stands -/
def rcS (h : jx_H) (a N : Nat) (s : RS) : Prop := h.2.1 2 1 = nI N ∧ h.2.1 2 5 = s.1 ∧ (¬ s.1 = 0 → h.2.1 2 2 = -2) ∧ (∃ z, z ≤ 400 ∧ h.2.1 a 1 = nI z) ∧ (s.1 = 0 → txA h N s.2.1 ∧ h.2.1 18 2 = nI s.2.2.1 ∧ h.2.1 a 1 = nI s.2.2.2.length ∧ ∀ j, j < s.2.2.2.length → h.2.1 (a + 1) j = s.2.2.2.getD j 0)
def ruF (a : Nat) (h h' : jx_H) : Prop := fC (fun b => b = 2 ∨ b = 18 ∨ b = a ∨ b = a + 1) h h' ∧ h'.2.1 a 5 = h.2.1 a 5
theorem ruF.rf {a : Nat} {h : jx_H} : ruF a h h := ⟨fC.rf, rfl⟩
theorem ruF.tr {a : Nat} {h1 h2 h3 : jx_H} (x : ruF a h1 h2) (y : ruF a h2 h3) : ruF a h1 h3 := ⟨x.1.tr y.1, y.2.trans x.2⟩
def rcI (h : jx_H) (a N : Nat) (T : Nat → Int32) (s : RS) : Prop := (jx_St h ∧ jx_Rl h a ∧ h.2.2.2 18 1 = some a ∧ h.2.1 3 = T) ∧ rcS h a N s
theorem rcI.nx {h h' : jx_H} {a N : Nat} {T : Nat → Int32} {s s' : RS} (B : rcI h a N T s) (F : ruF a h h') (ha : 125 ≤ a) (X : rcS h' a N s') : rcI h' a N T s' := ⟨⟨F.1.St B.1.1, F.1.Rl B.1.2.1, F.1.rr B.1.2.2.1, (F.1.2 3 (by omega)).trans B.1.2.2.2⟩, X⟩
theorem rcI.ff {h : jx_H} {a N : Nat} {T : Nat → Int32} {s s' : RS} (B : rcI h a N T s) (f : ¬ s.1 = 0) (e : s'.1 = s.1) : rcI h a N T s' := ⟨B.1, B.2.1, B.2.2.1.trans e.symm, fun _ => B.2.2.2.1 f, B.2.2.2.2.1, fun z => absurd (e.symm.trans z) f⟩
theorem txA.of {h h' : jx_H} {N b : Nat} (A : txA h N b) (e2 : h'.2.1 2 = h.2.1 2) (e3 : h'.2.1 3 = h.2.1 3) : txA h' N b := by
  unfold txA at A ⊢
  rw [e2, e3]; exact A
theorem rcI.tx {h h' : jx_H} {a N : Nat} {T : Nat → Int32} {s s' : RS} (B : rcI h a N T s) (ha : 125 ≤ a) (f : fC (fun b => b = 2) h h') (e1 : h'.2.1 2 1 = nI N) (e5 : h'.2.1 2 5 = s'.1) (eS : ¬ s'.1 = 0 → h'.2.1 2 2 = -2) (eA : s'.1 = 0 → s.1 = 0 ∧ txA h' N s'.2.1 ∧ s'.2.2 = s.2.2) : ruF a h h' ∧ rcI h' a N T s' := by
  have ea : h'.2.1 a = h.2.1 a := f.2 a (by omega)
  have ea1 : h'.2.1 (a + 1) = h.2.1 (a + 1) := f.2 (a + 1) (by omega)
  have e18 : h'.2.1 18 = h.2.1 18 := f.2 18 (by decide)
  have F : ruF a h h' := ⟨f.mo (fun b e => Or.inl e), by rw [ea]⟩
  refine ⟨F, B.nx F ha ⟨e1, e5, eS, ?_, fun z => ?_⟩⟩
  · rw [ea]; exact B.2.2.2.2.1
  · obtain ⟨z1, z2, z3⟩ := eA z
    rw [z3, ea, ea1, e18]
    exact ⟨z2, (B.2.2.2.2.2 z1).2⟩
theorem rc_ad {h : jx_H} {a N z : Nat} {T : Nat → Int32} {s : RS} {x : Int32} (B : rcI h a N T s) (ha : 125 ≤ a) (hz : h.2.1 a 1 = nI z) (z4 : z < 400) (L : s.1 = 0 → s.2.2.2.length < 400) : ruF a h (jx_wI (jx_wI h (a + 1) z x) a 1 (nI (z + 1))) ∧ rcI (jx_wI (jx_wI h (a + 1) z x) a 1 (nI (z + 1))) a N T (adR x s) := by
  have F : ruF a h (jx_wI (jx_wI h (a + 1) z x) a 1 (nI (z + 1))) := ⟨((fC.rf.wI (Or.inr (Or.inr (Or.inr rfl)))).wI (Or.inr (Or.inr (Or.inl rfl)))), by rw [wI_at, jx_up_ne _ _ (by decide), wI_ne _ _ _ (by omega)]⟩
  refine ⟨F, B.nx F ha ?_⟩
  obtain ⟨-, b1, b2, b3, b4, b5⟩ := B
  have e2 : (jx_wI (jx_wI h (a + 1) z x) a 1 (nI (z + 1))).2.1 2 = h.2.1 2 := by rw [wI_ne _ _ _ (by omega), wI_ne _ _ _ (by omega)]
  have e3 : (jx_wI (jx_wI h (a + 1) z x) a 1 (nI (z + 1))).2.1 3 = h.2.1 3 := by rw [wI_ne _ _ _ (by omega), wI_ne _ _ _ (by omega)]
  have e18 : (jx_wI (jx_wI h (a + 1) z x) a 1 (nI (z + 1))).2.1 18 = h.2.1 18 := by rw [wI_ne _ _ _ (by omega), wI_ne _ _ _ (by omega)]
  have es : (jx_wI (jx_wI h (a + 1) z x) a 1 (nI (z + 1))).2.1 a 1 = nI (z + 1) := by rw [wI_at, jx_up_self]
  have ec : (jx_wI (jx_wI h (a + 1) z x) a 1 (nI (z + 1))).2.1 (a + 1) = jx_up (h.2.1 (a + 1)) z x := by rw [wI_ne _ _ _ (by omega), wI_at]
  generalize jx_wI (jx_wI h (a + 1) z x) a 1 (nI (z + 1)) = h' at e2 e3 e18 es ec ⊢
  by_cases f : s.1 = 0
  · obtain ⟨c1, c2, c3, c4⟩ := b5 f
    have l4 := L f
    have zl : z = s.2.2.2.length := (nI_eq (by omega) (by omega)).mp (hz.symm.trans c3)
    rw [ad_o f]
    refine ⟨by rw [e2]; exact b1, by rw [e2]; exact b2.trans f, fun y => absurd rfl y, ⟨z + 1, by omega, es⟩, fun _ => ⟨c1.of e2 e3, by rw [e18]; exact c2, ?_, fun j hj => ?_⟩⟩
    · dsimp only
      rw [es, List.length_append, List.length_singleton, zl]
    · dsimp only at hj ⊢
      rw [List.length_append, List.length_singleton] at hj
      rw [ec]
      by_cases y : j = z
      · have e0 := gD_r (A := s.2.2.2) (B := [x]) (j := 0)
        rw [y, jx_up_self, zl]
        exact e0.symm
      · rw [jx_up_ne _ _ y, gD_l (by omega)]; exact c4 j (by omega)
  · rw [ad_f f]
    exact ⟨by rw [e2]; exact b1, by rw [e2]; exact b2, fun _ => by rw [e2]; exact b3 f, ⟨z + 1, by omega, es⟩, fun y => absurd y f⟩
set_option maxHeartbeats 2000000 in
theorem t_Ru_add (d : Nat) {bc bs : Nat} {h : jx_H} {a N : Nat} {T : Nat → Int32} {s : RS} (x : Int32) (B : rcI h a N T s) (ha : 125 ≤ a) (L : s.1 = 0 → s.2.2.2.length < 400) : jx_Tr (d + 1) bc bs 5002 [.ref a, .int x] h (fun r h' => r = none ∧ ruF a h h' ∧ rcI h' a N T (adR x s)) := by
  refine jx_tr jM_Ru_add rfl rfl (lv := [some (.ref a), some (.int x)]) rfl ?_
  obtain ⟨z, z1, z2⟩ := B.2.2.2.2.1
  refine je_aload0 (pc := 0) d5002_0 rfl ?_
  refine ju_geti (pc := 1) d5002_1 jF_5_28 rfl B.1.2.1.1 ?_
  refine ju_eqi (v := nI z) z2 ?_
  refine je_sipush (pc := 4) (v := 400) d5002_4 rfl ?_
  refine jn_icge (pc := 7) (a := (z)) (b := 400) 30 d5002_7 (by decide) (by omega) (by omega) (fun c7 => ?_) (fun c7 => ?_)
  · refine je_ret (pc := 30) d5002_30 rfl ?_
    have nf : ¬ s.1 = 0 := fun f => by
      have c3 := (B.2.2.2.2.2 f).2.2.1
      have l4 := L f
      have zl : z = s.2.2.2.length := (nI_eq (by omega) (by omega)).mp (z2.symm.trans c3)
      omega
    rw [ad_f nf]
    exact ⟨rfl, ruF.rf, B⟩
  · refine je_aload0 (pc := 10) d5002_10 rfl ?_
    refine ju_getr (pc := 11) (b := (a + 1)) d5002_11 jF_5_9 rfl B.1.2.1.1 B.1.2.1.2.1.2 ?_
    refine je_aload0 (pc := 14) d5002_14 rfl ?_
    refine ju_geti (pc := 15) d5002_15 jF_5_28 rfl B.1.2.1.1 ?_
    refine ju_eqi (v := nI z) z2 ?_
    refine je_iload1 (pc := 18) d5002_18 rfl ?_
    refine ju_iast (pc := 19) (jn := (z)) d5002_19 B.1.2.1.2.1.1 (vp_in_nI (by omega) (by decide)) (nI_clamp (by omega)) ?_
    refine je_aload0 (pc := 20) d5002_20 rfl ?_
    refine je_dup (pc := 21) d5002_21 rfl ?_
    refine ju_geti (pc := 22) d5002_22 jF_5_28 rfl B.1.2.1.wI.1 ?_
    refine ju_eqi (v := nI z) (by rw [wI_ne _ _ _ (by omega)]; exact z2) ?_
    refine je_iconst (pc := 25) (v := 1) d5002_25 rfl ?_
    refine je_iadd (pc := 26) d5002_26 ?_
    refine ju_eqi (v := nI ((z) + 1)) (nI_add (z) 1) ?_
    refine ju_puti (pc := 27) d5002_27 jF_5_28 rfl B.1.2.1.wI.1 ?_
    refine je_ret (pc := 30) d5002_30 rfl ?_
    exact ⟨rfl, rc_ad B ha z2 c7 L⟩
theorem t_Tx_advance_R (d : Nat) {bc bs : Nat} {h : jx_H} {a N : Nat} {T : Nat → Int32} {s : RS} (B : rcI h a N T s) (ha : 125 ≤ a) (hN : N ≤ 400) (O : okR T N s) : jx_Tr (d + 3) bc bs 1003 [.ref 2] h (fun r h' => r = none ∧ ruF a h h' ∧ rcI h' a N T (avR T N s)) := by
  obtain ⟨⟨H, RL, RA, eT⟩, b1, b2, b3, b4, b5⟩ := id B
  by_cases f : s.1 = 0
  · obtain ⟨A, c2, c3, c4⟩ := b5 f
    refine (t_Tx_advance d (N := N) (u := tkE T N s.2.1) H b1 (by rw [← eT]; exact A.2.2.1) hN (tk_N (O f).1).2 (b2.trans f)).mono (fun r h' e => ?_)
    obtain ⟨e0, f1, j1, A2⟩ := e
    rw [eT] at A2
    rw [av_o f]
    exact ⟨e0, B.tx ha f1 ((j1 1 (by decide) (by decide) (by decide)).trans b1) ((j1 5 (by decide) (by decide) (by decide)).trans (b2.trans f)) (fun z => absurd rfl z) (fun _ => ⟨f, A2, rfl⟩)⟩
  · refine (t_Tx_advance_n d H b2 f).mono (fun r h' e => ?_)
    obtain ⟨e0, rfl⟩ := e
    rw [av_f f]
    exact ⟨e0, ruF.rf, B⟩
theorem t_Tx_blame_n2 (d : Nat) {bc bs : Nat} {h : jx_H} {a N k : Nat} {T : Nat → Int32} {s : RS} (B : rcI h a N T s) (ha : 125 ≤ a) (hN : N ≤ 400) (O : s.1 = 0 → s.2.1 ≤ N) (hk : k ≤ 4 := by decide) : jx_Tr (d + 1) bc bs 1008 [.ref 2, .int (nI k)] h (fun r h' => r = none ∧ ruF a h h' ∧ rcI h' a N T (blR k s)) := by
  obtain ⟨⟨H, RL, RA, eT⟩, b1, b2, b3, b4, b5⟩ := id B
  by_cases f : s.1 = 0
  · obtain ⟨A, c2, c3, c4⟩ := b5 f
    have hb : s.2.1 ≤ 400 := by have := O f; omega
    refine (t_Tx_blame d (b := s.2.1) (c := k) H (b2.trans f) A.2.1 hk hb).mono (fun r h' e => ?_)
    obtain ⟨e0, e1⟩ := e
    obtain ⟨x1, x2⟩ := txS.bad (p := 0) b1 e1 hb hk
    rw [bl_o f]
    exact ⟨e0, B.tx ha x2 x1.1 x1.2.1 x1.2.2.2 (fun z => absurd z (flt_nz hb hk))⟩
  · refine (t_Tx_blame_n d H b2 f (nI k)).mono (fun r h' e => ?_)
    obtain ⟨e0, rfl⟩ := e
    rw [bl_f f]
    exact ⟨e0, ruF.rf, B⟩
theorem t_Tx_blame_R (d : Nat) {bc bs : Nat} {h : jx_H} {a N k : Nat} {T : Nat → Int32} {s : RS} (hk : k ≤ 4) (B : rcI h a N T s) (ha : 125 ≤ a) (hN : N ≤ 400) (O : okR T N s) : jx_Tr (d + 1) bc bs 1008 [.ref 2, .int (nI k)] h (fun r h' => r = none ∧ ruF a h h' ∧ rcI h' a N T (blR k s)) := t_Tx_blame_n2 d B ha hN (fun f => (O f).1) hk
set_option maxHeartbeats 2000000 in
theorem t_Tx_isWord_n (d : Nat) {bc bs : Nat} {h : jx_H} {e : Nat} {q : Nat × Nat × String × List Int32} (hq : jx_strs[e]? = some (e, q)) (H : jx_St h) (hs : h.2.1 2 2 = -2) : jx_Tr (d + 5) bc bs 1007 [.ref 2, .ref (1000000 + e)] h (fun r h' => r = some (.int 0) ∧ h' = h) := by
  refine jx_tr jM_Tx_isWord rfl rfl (lv := [some (.ref 2), some (.ref (1000000 + e)), none, none]) rfl ?_
  refine je_aload1 (pc := 0) d1007_0 rfl ?_
  refine je_callS (pc := 1) (as := []) d1007_1 jL_1_50 jM_Str_length rfl rfl hq rfl (Nat.le_of_ble_eq_true rfl) (t_Str_length (d + 2) hq) (fun r1 h1 q1 => ?_)
  obtain ⟨rfl, e1⟩ := q1
  obtain rfl := e1.symm
  refine ju_istore2 (pc := 4) (lv' := [some _, some _, some _, none]) d1007_4 rfl rfl ?_
  refine je_aload0 (pc := 5) d1007_5 rfl ?_
  refine ju_geti (pc := 6) d1007_6 jF_1_37 rfl (sK2 H) ?_
  refine ju_eqi (v := -2) hs ?_
  refine je_sipush (pc := 9) (v := 257) d1007_9 rfl ?_
  refine je_icne (pc := 12) 28 d1007_12 (by decide) (fun c12 => ?_) (fun c12 => absurd c12 (by decide))
  refine je_iconst (pc := 28) (v := 0) d1007_28 rfl ?_
  refine je_zret (pc := 29) d1007_29 rfl (Or.inl rfl) ?_
  exact ⟨rfl, rfl⟩
theorem t_Tx_isWord_R (d : Nat) {bc bs : Nat} {h : jx_H} {a N e : Nat} {T : Nat → Int32} {s : RS} (he : e < 44) (B : rcI h a N T s) (hN : N ≤ 400) (hT : bytT T N) (O : okR T N s) : jx_Tr (d + 5) bc bs 1007 [.ref 2, .ref (1000000 + e)] h (fun r h' => r = some (.int (b2 (s.1 = 0 ∧ stW T N s.2.1 (wdO e)))) ∧ h' = h) := by
  obtain ⟨⟨H, RL, RA, eT⟩, b1, b2', b3, b4, b5⟩ := id B
  by_cases f : s.1 = 0
  · obtain ⟨A, c2, c3, c4⟩ := b5 f
    refine (t_Tx_isWord d (q := sqO e) (N := N) (b := s.2.1) (sq_q he) (wd_100 he) H A hN (O f).1 (by rw [eT]; exact hT)).mono (fun r h' e => ?_)
    obtain ⟨rfl, rfl⟩ := e
    rw [eT]
    exact ⟨congrArg (fun v => some (Value.int v)) (b2_c ⟨fun z => ⟨f, z⟩, fun z => z.2⟩), rfl⟩
  · refine (t_Tx_isWord_n d (q := sqO e) (sq_q he) H (b3 f)).mono (fun r h' e => ?_)
    obtain ⟨rfl, rfl⟩ := e
    exact ⟨by rw [b2_f (fun z => f z.1)], rfl⟩
theorem rc_18 {h : jx_H} {a N c : Nat} {T : Nat → Int32} {s : RS} (B : rcI h a N T s) (ha : 125 ≤ a) (x : Int32) (e : s.1 = 0 → x = nI c) : ruF a h (jx_wI h 18 2 x) ∧ rcI (jx_wI h 18 2 x) a N T (s.1, s.2.1, c, s.2.2.2) := by
  have F : ruF a h (jx_wI h 18 2 x) := ⟨fC.rf.wI (Or.inr (Or.inl rfl)), by rw [wI_ne _ _ _ (by omega)]⟩
  have e2 : (jx_wI h 18 2 x).2.1 2 = h.2.1 2 := by rw [wI_ne _ _ _ (by omega)]
  have e3 : (jx_wI h 18 2 x).2.1 3 = h.2.1 3 := by rw [wI_ne _ _ _ (by omega)]
  have ea : (jx_wI h 18 2 x).2.1 a = h.2.1 a := by rw [wI_ne _ _ _ (by omega)]
  have ea1 : (jx_wI h 18 2 x).2.1 (a + 1) = h.2.1 (a + 1) := by rw [wI_ne _ _ _ (by omega)]
  have e18 : (jx_wI h 18 2 x).2.1 18 2 = x := by rw [wI_at, jx_up_self]
  refine ⟨F, B.nx F ha ?_⟩
  generalize jx_wI h 18 2 x = h' at e2 e3 ea ea1 e18 ⊢
  obtain ⟨-, b1, b2, b3, b4, b5⟩ := B
  refine ⟨by rw [e2]; exact b1, by rw [e2]; exact b2, fun z => by rw [e2]; exact b3 z, by rw [ea]; exact b4, fun z => ?_⟩
  obtain ⟨c1, c2, c3, c4⟩ := b5 z
  exact ⟨c1.of e2 e3, e18.trans (e z), by rw [ea]; exact c3, by rw [ea1]; exact c4⟩
theorem le60 {c : Nat} (h : c ≤ 61) : nI c ≤ 60 ↔ c ≤ 60 := by
  rw [fa_le, show (60 : Int32) = nI 60 from rfl, nI_toInt (by omega), nI_toInt (by omega)]
  omega
set_option maxHeartbeats 2000000 in
theorem t_Rr_countValue (d : Nat) {bc bs : Nat} {h : jx_H} {a N : Nat} {T : Nat → Int32} {s : RS} (B : rcI h a N T s) (ha : 125 ≤ a) (hN : N ≤ 400) (hT : bytT T N) (I : iR T N s) : jx_Tr (d + 2) bc bs 6006 [.ref 18] h (fun r h' => r = none ∧ ruF a h h' ∧ rcI h' a N T (cnR s)) := by
  refine jx_tr jM_Rr_countValue rfl rfl (lv := [some (.ref 18)]) rfl ?_
  refine je_aload0 (pc := 0) d6006_0 rfl ?_
  refine je_dup (pc := 1) d6006_1 rfl ?_
  refine ju_geti (pc := 2) d6006_2 jF_6_23 rfl (sK18 B.1.1) ?_
  refine je_iconst (pc := 5) (v := 1) d6006_5 rfl ?_
  refine je_iadd (pc := 6) d6006_6 ?_
  refine ju_puti (pc := 7) d6006_7 jF_6_23 rfl (sK18 B.1.1) ?_
  have vf : s.1 = 0 → h.2.1 18 2 + 1 = nI (s.2.2.1 + 1) := fun f => by
    rw [(B.2.2.2.2.2 f).2.1]; exact nI_1 _
  obtain ⟨F1, B1⟩ := rc_18 (c := s.2.2.1 + 1) B ha (h.2.1 18 2 + 1) vf
  have e18 : (jx_wI h 18 2 (h.2.1 18 2 + 1)).2.1 18 2 = h.2.1 18 2 + 1 := by rw [wI_at, jx_up_self]
  have O1 : okR T N (s.1, s.2.1, s.2.2.1 + 1, s.2.2.2) → True := fun _ => trivial
  refine je_aload0 (pc := 10) d6006_10 rfl ?_
  refine ju_geti (pc := 11) d6006_11 jF_6_23 rfl (sK18 B1.1.1) ?_
  refine ju_eqi (v := h.2.1 18 2 + 1) e18 ?_
  refine je_bipush (pc := 14) (v := 60) d6006_14 rfl ?_
  refine ju_icle (pc := 16) 27 d6006_16 (by decide) (fun c16 => ?_) (fun c16 => ?_)
  · refine je_ret (pc := 27) d6006_27 rfl ?_
    by_cases f : s.1 = 0
    · have c60 : s.2.2.1 ≤ 60 := (I.1 f).2.2
      have c59 : s.2.2.1 + 1 ≤ 60 := (le60 (by omega)).mp (by rw [← vf f]; exact Int32.not_lt.mp c16)
      rw [cn_o f (by omega)]
      rw [f] at B1
      exact ⟨rfl, F1, B1⟩
    · rw [cn_f f]
      exact ⟨rfl, F1, B1.ff f rfl⟩
  · refine je_aload0 (pc := 19) d6006_19 rfl ?_
    refine ju_getr (pc := 20) (b := 2) d6006_20 jF_6_16 rfl (sK18 B1.1.1) (sR18_0 B1.1.1) ?_
    refine je_iconst (pc := 23) (v := 3) d6006_23 rfl ?_
    refine ju_callv (pc := 24) (as := [_]) d6006_24 jL_6_38 jM_Tx_blame rfl (by decide) (sK2 B1.1.1) rfl (by exact Nat.le_of_ble_eq_true rfl) (t_Tx_blame_n2 d (k := 3) B1 ha hN (fun f => (I.1 f).1)) (fun r24 h24 q24 => ?_)
    obtain ⟨rfl, F2, B2⟩ := q24
    refine je_ret (pc := 27) d6006_27 rfl ?_
    by_cases f : s.1 = 0
    · have c60 : s.2.2.1 ≤ 60 := (I.1 f).2.2
      have c59 : ¬ s.2.2.1 + 1 ≤ 60 := fun z => absurd ((le60 (by omega)).mpr z) (by rw [← vf f]; exact fun y => absurd c16 (Int32.not_lt.mpr y))
      rw [cn_x f (by omega)]
      have nz : ¬ (blR 3 (s.1, s.2.1, s.2.2.1 + 1, s.2.2.2)).1 = 0 := by
        rw [bl_o (s := (s.1, s.2.1, s.2.2.1 + 1, s.2.2.2)) f]
        exact flt_nz (by have := (I.1 f).1; dsimp only; omega) (by decide)
      exact ⟨rfl, F1.tr F2, B2.ff nz (by rw [bl_o (s := (s.1, s.2.1, s.2.2.1 + 1, s.2.2.2)) f])⟩
    · rw [cn_f f]
      rw [bl_f (s := (s.1, s.2.1, s.2.2.1 + 1, s.2.2.2)) f] at B2
      exact ⟨rfl, F1.tr F2, B2.ff f rfl⟩
