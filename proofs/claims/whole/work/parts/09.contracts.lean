/-! Copies; contracts out of walks; calls by contract; ends. -/
theorem jx_nfw : nativeFrameWords "java/lang/System" "arraycopy" 5 = 7 := by decide +kernel
section JD
variable {d bc bs i pc : Nat} {lv : List (Option Value)} {st : List Value} {h : jx_H} {Q : Option Value → jx_H → Prop}
theorem je_copy {x a0 a n0 n1 : Nat} {sp dp n : Int32} {h' : jx_H} (hd : decode (jm_b i) pc = .ok (.invokestatic x, 3)) (hk : jx_Lac (jm_o i) x) (ha0 : h.1[a0]? = some (.inl (1, n0))) (ha : h.1[a]? = some (.inl (1, n1))) (h1 : ¬ sp < 0) (h2 : ¬ dp < 0) (h3 : ¬ n < 0) (h4 : sp.toNatClampNeg + n.toNatClampNeg ≤ n0) (h5 : dp.toNatClampNeg + n.toNatClampNeg ≤ n1) (hs : (st.map fun v => v.category).sum ≤ 8) (hh : jx_cpI h a0 sp.toNatClampNeg a dp.toNatClampNeg n.toNatClampNeg = h')
    (k : jx_Ev (d + 1) bc bs i (pc + 3) lv st h' Q) : jx_Ev (d + 1) bc bs i pc lv (.int n :: .int dp :: .ref a :: .int sp :: .ref a0 :: st) h Q := by
  subst hh
  intro p l e R s m args below meth c G H locs cells slots ls Z F r hl ho hcs hr
  obtain ⟨⟨hx, hb, hml⟩, ⟨hown, hts, hK⟩, ⟨hfr, hlo⟩, -⟩ := id F
  have nn : ∀ z : Int32, ¬ z < 0 → z.toInt = (z.toNatClampNeg : Int) := by
    intro z hz
    have hz0 : (0 : Int) ≤ z.toInt := by
      have := Int32.not_lt.mp hz
      simpa using Int32.le_iff_toInt_le.mp this
    show z.toInt = ((z.toInt.toNat : Nat) : Int)
    omega
  have hc0 := r.2.2.2.2.2 a0 _ ha0
  have hc1 := r.2.2.2.2.2 a _ ha
  simp [jx_cell] at hc0 hc1
  have hA := (hK.2.1 (1, .int) (by simp [jx_prims])).1
  have hpos := jx_ad_pos r ha (fun n => by simp)
  intro T hT X
  obtain ⟨-, k0, hk0, cm0, hkk0⟩ := hA n0 (fun j => .int (h.2.1 a0 j))
  obtain ⟨-, k1, hk1, cm1, hkk1⟩ := hA n1 (fun j => .int (h.2.1 a j))
  obtain ⟨vm', X', step⟩ := X.arraycopy hx hown (hts _ hk) (hts _ jw_ac.1) (hts _ jw_ac.2.1) (hts _ jw_ac.2.2) (src := jx_ad G a0) (dst := jx_ad G a) (cs := arrV (jg_a G 1) n0 (fun j => .int (h.2.1 a0 j))) (cd := arrV (jg_a G 1) n1 (fun j => .int (h.2.1 a j))) (srcPos := sp) (destPos := dp) (n := n) (by rw [hT]; exact hc0) (by rw [hT]; exact hc1)
    (fun _ h => by cases h) (fun _ h => by cases h) (fun h => by cases h) (fun h => by cases h) hk0 hk1 hkk0 hkk1 (by simp [refKind]) h1 h2 h3
    (by rw [nn sp h1, nn n h3, arrV_size]; omega)
    (by rw [nn dp h2, nn n h3, arrV_size]; omega)
    (fun vm₁ _ i hi => by
      have e : (arrV (jg_a G 1) n0 (fun j => .int (h.2.1 a0 j))).slots.getD (sp.toNatClampNeg + i) .null = .int (h.2.1 a0 (sp.toNatClampNeg + i)) := by
        rw [Array.getD_eq_getD_getElem?, arrV_read _ _ (by omega)]
        rfl
      refine ⟨?_, ?_⟩
      · rw [e]
        rfl
      · rw [e]
        exact trivial)
    (g := F0 m pc ls ((Value.int n :: .int dp :: .ref a :: .int sp :: .ref a0 :: st).map (jx_cv G))) rfl (by rw [hml]; exact hl.2.1) (rest := st.map (jx_cv G)) rfl (by rw [hb]; exact hd) (Nat.le_trans (by omega) hfr) (by show 2 * 0 + _ + (nativeFrameWords "java/lang/System" "arraycopy" 5 + 11) ≤ _; rw [jx_cv_sum, jx_nfw]; omega)
  have e1 : copied (arrV (jg_a G 1) n0 (fun j => .int (h.2.1 a0 j))) (arrV (jg_a G 1) n1 (fun j => .int (h.2.1 a j))) sp dp n = arrV (jg_a G 1) n1 (fun j => .int (va_cpy (h.2.1 a0) (h.2.1 a) sp.toNatClampNeg dp.toNatClampNeg n.toNatClampNeg j)) := va_copied (fun z => .int z) _ _ _ _ h4
  rw [e1] at X' step
  have hl1 : jx_ad G a < H.size := (Array.getElem?_eq_some_iff.mp hc1).1
  have hheap : ((T.setVm vm').setCell (jx_ad G a) (arrV (jg_a G 1) n1 (fun j => .int (va_cpy (h.2.1 a0) (h.2.1 a) sp.toNatClampNeg dp.toNatClampNeg n.toNatClampNeg j)))).heap = H.setIfInBounds (jx_ad G a) (arrV (jg_a G 1) n1 (fun j => .int (va_cpy (h.2.1 a0) (h.2.1 a) sp.toNatClampNeg dp.toNatClampNeg n.toNatClampNeg j))) := by rw [← hT]; rfl
  have oq : ∀ q : Nat, q ≠ jx_ad G a → (H.setIfInBounds (jx_ad G a) (arrV (jg_a G 1) n1 (fun j => .int (va_cpy (h.2.1 a0) (h.2.1 a) sp.toNatClampNeg dp.toNatClampNeg n.toNatClampNeg j))))[q]? = H[q]? := fun q hq => by simp [Array.getElem?_setIfInBounds, Ne.symm hq]
  obtain ⟨t, a1, b1⟩ := k p l e R s m args below meth c G _ _ cells slots ls Z F (r.put (h' := jx_cpI h a0 sp.toNatClampNeg a dp.toNatClampNeg n.toNatClampNeg) ha (fun n => by simp) (by simp) oq rfl (fun b hb => ⟨jx_row_ne _ _ hb, rfl, rfl⟩) (by
      simp [jx_cell, hl1, jx_cpI, jx_row_self])) hl (fun q hq => by
      rcases List.mem_append.mp hq with hq | hq
      · exact ho q hq
      · obtain ⟨z, -, hz⟩ := List.mem_map.mp hq
        rw [← hz]
        exact hpos.2) hcs hr _ hheap X'
  exact ⟨t, step t a1, b1⟩
/-! locals at a method's entry -/
def jx_es : List Value → List (Option Value)
  | [] => []
  | .long x :: vs => some (.long x) :: none :: jx_es vs
  | .double x :: vs => some (.double x) :: none :: jx_es vs
  | v :: vs => some v :: jx_es vs
def jx_ent (L : Nat) (as : List Value) : List (Option Value) := jx_es as ++ List.replicate (L - (jx_es as).length) none
theorem jx_as_none (G : jx_G) : ∀ (n k : Nat), jx_as G (List.replicate n none) k = []
  | 0, k => rfl
  | n + 1, k => by rw [List.replicate_succ, jx_as, jx_as_none G n]
theorem jx_es_args (G : jx_G) (n : Nat) : ∀ (as : List Value) (k : Nat), jx_as G (jx_es as ++ List.replicate n none) k = lv_args k (as.map (jx_cv G))
  | [], k => by simp [jx_es, jx_as_none, lv_args]
  | v :: vs, k => by
    cases v with
    | long x => simp only [jx_es, List.cons_append, jx_as, List.map_cons, lv_args, jx_es_args G n vs]; simp [jx_cv, Value.category]
    | double x => simp only [jx_es, List.cons_append, jx_as, List.map_cons, lv_args, jx_es_args G n vs]; simp [jx_cv, Value.category]
    | int x => simp only [jx_es, List.cons_append, jx_as, List.map_cons, lv_args, jx_es_args G n vs]; simp [jx_cv, Value.category]
    | float x => simp only [jx_es, List.cons_append, jx_as, List.map_cons, lv_args, jx_es_args G n vs]; simp [jx_cv, Value.category]
    | null => simp only [jx_es, List.cons_append, jx_as, List.map_cons, lv_args, jx_es_args G n vs]; simp [jx_cv, Value.category]
    | ref x => simp only [jx_es, List.cons_append, jx_as, List.map_cons, lv_args, jx_es_args G n vs]; simp [jx_cv, Value.category]
    | retAddr x => simp only [jx_es, List.cons_append, jx_as, List.map_cons, lv_args, jx_es_args G n vs]; simp [jx_cv, Value.category]
theorem jx_es_len (G : jx_G) : ∀ as : List Value, (lg_sl (as.map (jx_cv G))).length = (jx_es as).length
  | [] => rfl
  | v :: vs => by
    have ih := jx_es_len G vs
    unfold lg_sl at ih
    cases v <;> (simp only [List.map_cons, jx_cv, lg_sl, List.flatMap_cons, List.length_append, ih, jx_es, List.length_cons]; simp [Value.category]; try omega)
theorem jx_entry (G : jx_G) {as : List Value} {L : Nat} (hL : (jx_es as).length ≤ L) : jx_lv G ((lg_sl (as.map (jx_cv G)) ++ List.replicate (L - (lg_sl (as.map (jx_cv G))).length) Slot.unset).toArray) L (jx_ent L as) := by
  have h1 := lv_entry (as.map (jx_cv G)) (n := L) (by rw [jx_es_len]; exact hL)
  refine ⟨by simp [jx_ent]; omega, h1.1, h1.2.1, fun q hq => h1.2.2 q ?_⟩
  unfold jx_ent at hq
  rw [jx_es_args] at hq
  exact hq
/-- a contract out of a walk -/
theorem jx_tr {n : Nat} {as : List Value} (hM : jx_M i n) (hco : (jm_y i).cls = jn_R (jm_o i)) (hlen : Nat.ble (jx_es as).length (jm_L i) = true) (hlv : jx_ent (jm_L i) as = lv) (k : jx_Ev d bc bs i 0 lv [] h Q) : jx_Tr d bc bs i as h Q := by
  subst hlv
  intro l G
  refine Met.ofW (cc := jm_b i) (maxL := jm_L i) (ret := jm_r i) hM.2.1 rfl ?_
  intro p e s m args below meth c s₁ B hml hv
  obtain ⟨rfl, hrel, hK⟩ := hv
  have hx := B.exec
  have hb := B.bytes
  have hr := B.returns
  have hts := atoms_spec (ws := jx_ws i) B.pre
  have hown : s.vm.findClass (jm_y i).cls = some m.cls := findClass_of_methodNamed B.named
  have hlocks := B.notSynchronized
  have hnm := (name_of_methodNamed B.named B.method).1
  rw [lg_entry_eq]
  refine k p l e _ s m _ below meth c G s.heap [] 0 0 _ _ ⟨⟨hx, hb, hml⟩, ⟨by rw [← hco]; exact hown, fun w hw => hts w (List.mem_cons_of_mem _ hw), hK⟩, ⟨Nat.le_refl _, Nat.le_refl _⟩, fun z => hnm.trans z⟩ hrel (jx_entry G (Nat.le_of_ble_eq_true hlen)) (fun q hq => by cases hq) ⟨by show 0 + bc ≤ bc; omega, by show 0 + bs ≤ bs; omega⟩ ?_
  intro r h' H' locs' pc ls hQ hR ho hok
  have hq : ∀ t : State, t.heap = H' → s.WarmedH t.vm → jx_Qc G Q ((as.map (jx_cv G)).toArray) s (.returned (r.map (jx_cv G))) t := fun t ht _ => ⟨r, h', rfl, hQ, by rw [ht]; exact hR⟩
  match r, hok, hq with
  | none, hok, hq => exact W.vret hx hb (hr.trans hok.2) hq ho hok.1
  | some (.int v), hok, hq =>
    obtain ⟨h1, ty, h2, h3⟩ := hok
    exact W.zret hx hb (hr.trans h2) h3 hq ho h1
  | some (.long v), hok, hq => exact W.lret hx hb (hr.trans hok.2) hq ho hok.1
  | some (.ref a), hok, hq =>
    obtain ⟨h1, n, h2⟩ := hok
    exact W.aret hx hb (hr.trans h2) (Or.inl ⟨n, rfl⟩) (Or.inr ⟨_, rfl⟩) hq ho h1
/-- weaker ends, deeper rooms -/
theorem jx_Tr.mono {as : List Value} {Q' : Option Value → jx_H → Prop} (hq : ∀ r h', Q r h' → Q' r h') (t : jx_Tr d bc bs i as h Q) : jx_Tr d bc bs i as h Q' := by
  intro l G p e ha hc hk s m args below hf happ hP hT
  obtain ⟨k, o, h1, h2, h3, ⟨r, h', g1, g2, g3⟩, hL⟩ := t l G p e ha hc hk s m args below hf happ hP hT
  exact ⟨k, o, h1, h2, h3, ⟨r, h', g1, hq r h' g2, g3⟩, hL⟩
theorem jx_Ev.mono {Q' : Option Value → jx_H → Prop} (hq : ∀ r h', Q r h' → Q' r h') (t : jx_Ev d bc bs i pc lv st h Q) : jx_Ev d bc bs i pc lv st h Q' :=
  fun p l e R s m args below meth c G H locs cells slots ls Z F r hl ho hcs hr => t p l e R s m args below meth c G H locs cells slots ls Z F r hl ho hcs (fun r0 h' H' locs' pc ls hQ => hr r0 h' H' locs' pc ls (hq r0 h' hQ))
theorem jx_Ev.deep {d' : Nat} (hd : d ≤ d') (t : jx_Ev d bc bs i pc lv st h Q) : jx_Ev d' bc bs i pc lv st h Q :=
  fun p l e R s m args below meth c G H locs cells slots ls Z F r hl ho hcs hr => t p l e R s m args below meth c G H locs cells slots ls Z ⟨F.1, F.2.1, ⟨Nat.le_trans hd F.2.2.1.1, Nat.le_trans (by omega) F.2.2.1.2⟩, F.2.2.2⟩ r hl ho hcs hr
theorem jx_Ev.more {bc' bs' : Nat} (h1 : bc ≤ bc') (h2 : bs ≤ bs') (t : jx_Ev d bc bs i pc lv st h Q) : jx_Ev d bc' bs' i pc lv st h Q :=
  fun p l e R s m args below meth c G H locs cells slots ls Z F r hl ho hcs hr => t p l e R s m args below meth c G H locs cells slots ls Z F r hl ho ⟨by omega, by omega⟩ hr
/-- fewer locals -/
theorem jx_Ev.forget {lv' : List (Option Value)} (hlen : lv'.length = lv.length) (hs : ∀ (k : Nat) (v : Value), lv'[k]? = some (some v) → lv[k]? = some (some v)) (t : jx_Ev d bc bs i pc lv' st h Q) : jx_Ev d bc bs i pc lv st h Q :=
  fun p l e R s m args below meth c G H locs cells slots ls Z F r hl ho hcs hr => t p l e R s m args below meth c G H locs cells slots ls Z F r ⟨hlen.trans hl.1, hl.2.1, hl.2.2.1, fun q hq => by
    obtain ⟨j, v, h1, rfl⟩ := jx_as_mem.mp hq
    exact hl.2.2.2 _ (jx_as_mem.mpr ⟨j, v, hs j v h1, rfl⟩)⟩ ho hcs hr
theorem jx_good (j : Nat) (hj : Cond.code (jm_y j) (jm_b j) (jm_L j) (jm_r j) ∈ jx_T) : GoodIn jx_T (jx_ws j) := by
  intro w hw
  have hm : w ∈ jx_T := by
    rcases List.mem_cons.mp hw with e | e
    · rw [e]; exact hj
    · exact e
  exact ⟨hm, good_of_word (List.mem_filter.mp hm).2⟩
theorem jx_blind (G : jx_G) (as : List Value) (h : jx_H) : FrameBlind (jx_Pc G as h) := fun a U g mk q => ⟨q.1, q.2.1, jx_KK.same (s := U) rfl q.2.2⟩
/-- behind a call -/
theorem jx_run {p : Program} {l : Launch} {e : Env} {R : Room} {s : State} {m : MethodId} {args : Array Value} {below : List Frame} {meth : Method} {c : Code} {H : Heap} {locs : List Loc} {cells slots mc ms : Nat} {Z : State → Prop} {G : jx_G} {ls : Array Slot} {st0 : List Value} {a : Array Value} {Q' : Option Value → jx_H → Prop}
    (F : jx_Fx G i d p R s m args meth c) (hl : jx_lv G ls (jm_L i) lv) (ho : ∀ q ∈ locs, jg_b G ≤ q.base) (hcs : cells + (mc + bc) ≤ R.cells ∧ slots + (ms + bs) ≤ R.slots) (hr : jx_Ret G i p l e R s m args below meth c Z Q)
    (run : va_Run p l e R s m args below meth c H locs cells slots mc ms (F0 m pc ls st0) (st.map (jx_cv G)) (jx_Qc G Q' a) (fun q => jg_b G ≤ q))
    (k : ∀ r h', Q' r h' → jx_Ev d bc bs i (pc + 3) lv (r.toList ++ st) h' Q) : W p l e R s m args below meth c H locs cells slots Z (F0 m pc ls st0) := by
  intro T hT X
  obtain ⟨v, st₀, t, T', L, h0, X', hL, e1, e2, ⟨r, h', hv, hQ, hR⟩, step⟩ := run T hT X
  cases hv
  obtain ⟨t2, a1, b1⟩ := k r h' hQ p l e R s m args below meth c G t.heap (locs ++ L) (cells + mc) (slots + ms) ls Z F hR hl (fun q hq => by
      rcases List.mem_append.mp hq with hq | hq
      · exact ho q hq
      · exact hL q hq) ⟨by omega, by omega⟩ hr T' e1 X'
  refine ⟨t2, step t2 ?_, b1⟩
  have e3 : (r.toList ++ st).map (jx_cv G) = (r.map (jx_cv G)).toList ++ st.map (jx_cv G) := by cases r <;> simp
  rw [e3] at a1
  exact a1
theorem jx_CallB {p : Program} {R : Room} {s : State} {m : MethodId} {args : Array Value} {meth : Method} {c : Code} {G : jx_G} {x j n mc ms : Nat} (F : jx_Fx G i (d + 1) p R s m args meth c) (hM : jx_M j n) (hl : Cond.methodLink (jn_R (jm_o i)) x (jm_y j) ∈ jx_T) : CallB R s args (jn_R (jm_o i)) x (jm_y j) (jm_b j) (jm_L j) (jm_r j) (jx_ws j) (jx_rm d mc ms) mc ms n := by
  obtain ⟨⟨m1, m2⟩, m3, m4, m5⟩ := hM
  have hts := F.2.1.2.1
  exact callB_of n hts (jx_good j m1) rfl rfl rfl (hts _ m2) (hts _ hl) m4 ⟨F.2.2.1.1, by have := F.2.2.1.2; show 8 + (jm_L j + 11) + 40 * d ≤ R.locals; omega⟩
theorem jx_CallN {p : Program} {R : Room} {s : State} {m : MethodId} {args : Array Value} {meth : Method} {c : Code} {G : jx_G} {x j n mc ms : Nat} (F : jx_Fx G i (d + 1) p R s m args meth c) (hM : jx_M j n) (hl : Cond.methodLinkNest (jn_R (jm_o i)) x (jm_y j) "DoughBorder" ∈ jx_nest) : va_CN R s args (jn_R (jm_o i)) x (jm_y j) "DoughBorder" (jm_b j) (jm_L j) (jm_r j) (jx_ws j) (jx_rm d mc ms) mc ms n := by
  obtain ⟨⟨m1, m2⟩, m3, m4, m5⟩ := hM
  have hts := F.2.1.2.1
  exact va_cnB n hts (jx_good j m1) rfl rfl rfl (F.2.1.2.2.2.2.2.1 _ hl) (hts _ m2) m4 ⟨F.2.2.1.1, by have := F.2.2.1.2; show 8 + (jm_L j + 11) + 40 * d ≤ R.locals; omega⟩
theorem je_calls {x j n mc ms : Nat} {as st0 : List Value} {Q' : Option Value → jx_H → Prop} (hd : decode (jm_b i) pc = .ok (.invokestatic x, 3)) (hl : jx_Ls (jm_o i) x j) (hM : jx_M j n) (hn : as.length = n) (hst : st0 = as.reverse ++ st) (hs : (st.map fun v => v.category).sum ≤ 8) (t : jx_Tr d mc ms j as h Q') (k : ∀ r h', Q' r h' → jx_Ev (d + 1) bc bs i (pc + 3) lv (r.toList ++ st) h' Q) : jx_Ev (d + 1) (mc + bc) (ms + bs) i pc lv st0 h Q := by
  subst hst
  intro p l e R s m args below meth c G H locs cells slots ls Z F r hlv ho hcs hr
  refine jx_run F hlv ho hcs hr (va_runS (As := as.map (jx_cv G)) ⟨F.1.1, F.1.2.1, F.1.2.2, F.2.1.1, F.2.1.2.1⟩ (t l G) ⟨jx_CallB F hM hl.1, F.2.1.2.1 _ hl.2⟩ ⟨jx_blind G as h, fun U hU hW => ⟨rfl, by rw [hU]; exact r, F.2.1.2.2.warm hW⟩⟩ rfl (by rw [List.length_map]; exact hn) hlv.2.1 (by simp) (by show 2 * 0 + _ ≤ 8; rw [jx_cv_sum]; omega) hd ⟨by omega, by omega⟩) k
theorem je_callsN {x j n mc ms : Nat} {as st0 : List Value} {Q' : Option Value → jx_H → Prop} (hd : decode (jm_b i) pc = .ok (.invokestatic x, 3)) (hl : jx_LsN (jm_o i) x j) (hM : jx_M j n) (hn : as.length = n) (hst : st0 = as.reverse ++ st) (hs : (st.map fun v => v.category).sum ≤ 8) (t : jx_Tr d mc ms j as h Q') (k : ∀ r h', Q' r h' → jx_Ev (d + 1) bc bs i (pc + 3) lv (r.toList ++ st) h' Q) : jx_Ev (d + 1) (mc + bc) (ms + bs) i pc lv st0 h Q := by
  subst hst
  intro p l e R s m args below meth c G H locs cells slots ls Z F r hlv ho hcs hr
  refine jx_run F hlv ho hcs hr (va_runSN (As := as.map (jx_cv G)) ⟨F.1.1, F.1.2.1, F.1.2.2, F.2.1.1, F.2.1.2.1⟩ (t l G) ⟨jx_CallN F hM hl.1, F.2.1.2.1 _ hl.2, trivial⟩ ⟨jx_blind G as h, fun U hU hW => ⟨rfl, by rw [hU]; exact r, F.2.1.2.2.warm hW⟩⟩ rfl (by rw [List.length_map]; exact hn) hlv.2.1 (by simp) (by show 2 * 0 + _ ≤ 8; rw [jx_cv_sum]; omega) hd ⟨by omega, by omega⟩) k
theorem je_callv {x j n mc ms a : Nat} {as st0 : List Value} {Q' : Option Value → jx_H → Prop} (hd : decode (jm_b i) pc = .ok (.invokevirtual x, 3)) (hl : jx_Lv (jm_o i) x j) (hM : jx_M j n) (hn : as.length = n) (ho13 : jm_o j < 13) (ha : h.1[a]? = some (.inr (.inl (jm_o j)))) (hst : st0 = as.reverse ++ .ref a :: st) (hs : (st.map fun v => v.category).sum ≤ 8) (t : jx_Tr d mc ms j (.ref a :: as) h Q') (k : ∀ r h', Q' r h' → jx_Ev (d + 1) bc bs i (pc + 3) lv (r.toList ++ st) h' Q) : jx_Ev (d + 1) (mc + bc) (ms + bs) i pc lv st0 h Q := by
  subst hst
  intro p l e R s m args below meth c G H locs cells slots ls Z F r hlv ho hcs hr
  have hcell := r.2.2.2.2.2 a _ ha
  simp only [jx_cell] at hcell
  obtain ⟨cell, q1, q2, q3, -⟩ := hcell
  have hfc := (F.2.1.2.2.1.1 _ _ (jn_cl_at _ ho13)).2.1
  refine jx_run F hlv ho hcs hr (va_runV (As := as.map (jx_cv G)) (b := jx_ad G a) (C := (jm_y j).cls) ⟨F.1.1, F.1.2.1, F.1.2.2, F.2.1.1, F.2.1.2.1⟩ (t l G) ⟨jx_CallB F hM hl.1, F.2.1.2.1 _ hl.2.1, F.2.1.2.1 _ hl.2.2.1⟩ ⟨jx_blind G _ h, ⟨cell, q1, by rw [q3]; rfl, by rw [q2, hl.2.2.2]; exact hfc⟩, fun U hU hW => ⟨rfl, by rw [hU]; exact r, F.2.1.2.2.warm hW⟩⟩ rfl (by rw [List.length_map]; exact hn) hlv.2.1 (by simp [jx_cv]) (by show 2 * 0 + _ ≤ 8; rw [jx_cv_sum]; omega) hd ⟨by omega, by omega⟩) k
theorem je_calli {x j n mc ms a : Nat} {as st0 : List Value} {Q' : Option Value → jx_H → Prop} (hd : decode (jm_b i) pc = .ok (.invokespecial x, 3)) (hl : jx_Li (jm_o i) x j) (hM : jx_M j n) (hn : as.length = n) (hst : st0 = as.reverse ++ .ref a :: st) (hs : (st.map fun v => v.category).sum ≤ 8) (t : jx_Tr d mc ms j (.ref a :: as) h Q') (k : ∀ r h', Q' r h' → jx_Ev (d + 1) bc bs i (pc + 3) lv (r.toList ++ st) h' Q) : jx_Ev (d + 1) (mc + bc) (ms + bs) i pc lv st0 h Q := by
  subst hst
  intro p l e R s m args below meth c G H locs cells slots ls Z F r hlv ho hcs hr
  have hcb := jx_CallB (mc := mc) (ms := ms) F hM hl.1
  rw [hl.2.2.2] at hcb
  refine jx_run F hlv ho hcs hr (va_runI (As := as.map (jx_cv G)) (b := jx_ad G a) ⟨F.1.1, F.1.2.1, F.1.2.2, F.2.1.1, F.2.1.2.1⟩ (t l G) ⟨hcb, hl.2.2.1, F.2.1.2.1 _ hl.2.1⟩ ⟨jx_blind G _ h, fun U hU hW => ⟨rfl, by rw [hU]; exact r, F.2.1.2.2.warm hW⟩⟩ rfl (by rw [List.length_map]; exact hn) hlv.2.1 (by simp [jx_cv]) (by show 2 * 0 + _ ≤ 8; rw [jx_cv_sum]; omega) hd ⟨by omega, by omega⟩) k
theorem je_calliN {x j n mc ms a : Nat} {as st0 : List Value} {Q' : Option Value → jx_H → Prop} (hd : decode (jm_b i) pc = .ok (.invokespecial x, 3)) (hl : jx_LiN (jm_o i) x j) (hM : jx_M j n) (hn : as.length = n) (hst : st0 = as.reverse ++ .ref a :: st) (hs : (st.map fun v => v.category).sum ≤ 8) (t : jx_Tr d mc ms j (.ref a :: as) h Q') (k : ∀ r h', Q' r h' → jx_Ev (d + 1) bc bs i (pc + 3) lv (r.toList ++ st) h' Q) : jx_Ev (d + 1) (mc + bc) (ms + bs) i pc lv st0 h Q := by
  subst hst
  intro p l e R s m args below meth c G H locs cells slots ls Z F r hlv ho hcs hr
  have hcb := jx_CallN (mc := mc) (ms := ms) F hM hl.1
  rw [hl.2.2.2] at hcb
  refine jx_run F hlv ho hcs hr (va_runIN (As := as.map (jx_cv G)) (b := jx_ad G a) ⟨F.1.1, F.1.2.1, F.1.2.2, F.2.1.1, F.2.1.2.1⟩ (t l G) ⟨hcb, hl.2.2.1, F.2.1.2.1 _ hl.2.1⟩ ⟨jx_blind G _ h, fun U hU hW => ⟨rfl, by rw [hU]; exact r, F.2.1.2.2.warm hW⟩⟩ rfl (by rw [List.length_map]; exact hn) hlv.2.1 (by simp [jx_cv]) (by show 2 * 0 + _ ≤ 8; rw [jx_cv_sum]; omega) hd ⟨by omega, by omega⟩) k
/-! ends -/
theorem je_ret (hd : decode (jm_b i) pc = .ok (.return_, 1)) (hr0 : jm_r i = none) (hq : Q none h) : jx_Ev d bc bs i pc lv [] h Q :=
  fun p l e R s m args below meth c G H locs cells slots ls Z F r hl ho hcs hr => W.widen (by omega) (by omega) (hr none h H locs pc ls hq r ho ⟨hd, hr0⟩)
theorem je_iret {v : Int32} (hd : decode (jm_b i) pc = .ok (.ireturn, 1)) (hr0 : jm_r i = some .int) (hq : Q (some (.int v)) h) : jx_Ev d bc bs i pc lv [.int v] h Q :=
  fun p l e R s m args below meth c G H locs cells slots ls Z F r hl ho hcs hr => W.widen (by omega) (by omega) (hr (some (.int v)) h H locs pc ls hq r ho ⟨hd, _, hr0, rfl⟩)
theorem je_zret {v : Int32} (hd : decode (jm_b i) pc = .ok (.ireturn, 1)) (hr0 : jm_r i = some .boolean) (hv : v = 0 ∨ v = 1) (hq : Q (some (.int v)) h) : jx_Ev d bc bs i pc lv [.int v] h Q :=
  fun p l e R s m args below meth c G H locs cells slots ls Z F r hl ho hcs hr => W.widen (by omega) (by omega) (hr (some (.int v)) h H locs pc ls hq r ho ⟨hd, _, hr0, by rcases hv with rfl | rfl <;> rfl⟩)
theorem je_lret {v : Int64} (hd : decode (jm_b i) pc = .ok (.lreturn, 1)) (hr0 : jm_r i = some .long) (hq : Q (some (.long v)) h) : jx_Ev d bc bs i pc lv [.long v] h Q :=
  fun p l e R s m args below meth c G H locs cells slots ls Z F r hl ho hcs hr => W.widen (by omega) (by omega) (hr (some (.long v)) h H locs pc ls hq r ho ⟨hd, hr0⟩)
theorem je_aret {v : Nat} {n : String} (hd : decode (jm_b i) pc = .ok (.areturn, 1)) (hr0 : jm_r i = some (.object n)) (hq : Q (some (.ref v)) h) : jx_Ev d bc bs i pc lv [.ref v] h Q :=
  fun p l e R s m args below meth c G H locs cells slots ls Z F r hl ho hcs hr => W.widen (by omega) (by omega) (hr (some (.ref v)) h H locs pc ls hq r ho ⟨hd, n, hr0⟩)
end JD
