/-! the class takes numbers and words -/
/-- where the reading stands: a fault, or the sign at p -/
def txS (h : jx_H) (N : Nat) (s : Int32 × Nat) : Prop := h.2.1 2 1 = nI N ∧ h.2.1 2 5 = s.1 ∧ (s.1 = 0 → s.2 ≤ N ∧ txA h N (skB (h.2.1 3) N s.2)) ∧ (¬ s.1 = 0 → h.2.1 2 2 = -2)
def fltI (b c : Nat) : Int32 := nI (1 + 8 * b + c)
theorem flt_nz {b c : Nat} (hb : b ≤ 400) (hc : c ≤ 4) : ¬ fltI b c = 0 := by
  unfold fltI
  rw [nI_0e (by omega)]
  omega
def amS (T : Nat → Int32) (N : Nat) (lo hi : Int32) (s : Int32 × Nat) : Int32 × Nat :=
  if ¬ s.1 = 0 then s else match nbK T N (skB T N s.2) lo hi with
    | some c => (fltI (skB T N s.2) c, s.2)
    | none => (0, tkE T N (skB T N s.2))
def amV (T : Nat → Int32) (N p : Nat) : Nat := vlN T (skB T N p) (fv5 (dgs T N (skB T N p)))
theorem am_f {T : Nat → Int32} {N : Nat} {lo hi : Int32} {s : Int32 × Nat} (h : ¬ s.1 = 0) : amS T N lo hi s = s := by unfold amS; rw [if_pos h]
theorem am_s {T : Nat → Int32} {N c : Nat} {lo hi : Int32} {s : Int32 × Nat} (h : s.1 = 0) (e : nbK T N (skB T N s.2) lo hi = some c) : amS T N lo hi s = (fltI (skB T N s.2) c, s.2) := by unfold amS; rw [if_neg (fun z => z h), e]
theorem am_n {T : Nat → Int32} {N : Nat} {lo hi : Int32} {s : Int32 × Nat} (h : s.1 = 0) (e : nbK T N (skB T N s.2) lo hi = none) : amS T N lo hi s = (0, tkE T N (skB T N s.2)) := by unfold amS; rw [if_neg (fun z => z h), e]
theorem sk_N {T : Nat → Int32} {N p : Nat} (h : p ≤ N) : skB T N p ≤ N := sp_N h
theorem nbK_c {T : Nat → Int32} {N b c : Nat} {lo hi : Int32} (h : nbK T N b lo hi = some c) : c ≤ 4 := by
  unfold nbK at h
  split at h
  · cases h; decide
  · split at h
    · cases h; decide
    · cases h
/-- a fault found -/
theorem txS.bad {h h' : jx_H} {N b c : Nat} {p : Nat} (q : h.2.1 2 1 = nI N) (e : h' = jx_wI (jx_wI h 2 5 (nI (1 + 8 * b + c))) 2 2 (-2)) (hb : b ≤ 400) (hc : c ≤ 4) : txS h' N (fltI b c, p) ∧ fC (fun b => b = 2) h h' := by
  subst e
  refine ⟨⟨?_, ?_, fun z => absurd z (flt_nz hb hc), fun _ => ?_⟩, ((fC.rf (A := fun b => b = 2)).wI rfl).wI rfl⟩
  · rw [wI_at, jx_up_ne _ _ (by decide), wI_at, jx_up_ne _ _ (by decide)]; exact q
  · rw [wI_at, jx_up_ne _ _ (by decide), wI_at, jx_up_self]; rfl
  · rw [wI_at, jx_up_self]
set_option maxHeartbeats 2000000 in
theorem t_Tx_number_n (d : Nat) {bc bs : Nat} {h : jx_H} {f : Int32} (lo hi : Int32) (H : jx_St h) (hf : h.2.1 2 5 = f) (f0 : ¬ f = 0) (hs : h.2.1 2 2 = -2) : jx_Tr (d + 3) bc bs 1010 [.ref 2, .int lo, .int hi] h (fun r h' => r = some (.int lo) ∧ h' = h) := by
  refine jx_tr jM_Tx_number rfl rfl (lv := [some (.ref 2), some (.int lo), some (.int hi), none, none]) rfl ?_
  refine je_aload0 (pc := 0) d1010_0 rfl ?_
  refine ju_geti (pc := 1) d1010_1 jF_1_37 rfl (sK2 H) ?_
  refine ju_eqi (v := -2) hs ?_
  refine je_sipush (pc := 4) (v := 256) d1010_4 rfl ?_
  refine je_iceq (pc := 7) 17 d1010_7 (by decide) (fun c7 => absurd c7 (by decide)) (fun c7 => ?_)
  refine je_aload0 (pc := 10) d1010_10 rfl ?_
  refine je_iconst (pc := 11) (v := 0) d1010_11 rfl ?_
  refine ju_callv (pc := 12) (as := [_]) d1010_12 jL_1_60 jM_Tx_blame rfl (by decide) (sK2 H) rfl (by exact Nat.le_of_ble_eq_true rfl) (t_Tx_blame_n (d + 1) H hf f0 _) (fun r12 h12 q12 => ?_)
  obtain ⟨rfl, e12⟩ := q12
  obtain rfl := e12.symm
  refine je_iload1 (pc := 15) d1010_15 rfl ?_
  refine je_iret (pc := 16) d1010_16 rfl ?_
  exact ⟨rfl, rfl⟩
set_option maxHeartbeats 2000000 in
theorem t_Tx_takeNumber (d : Nat) {bc bs : Nat} {h : jx_H} {N : Nat} {s : Int32 × Nat} (lo hi : Int32) (H : jx_St h) (q : txS h N s) (hN : N ≤ 400) (hT : bytT (h.2.1 3) N) : jx_Tr (d + 5) bc bs 1009 [.ref 2, .int lo, .int hi] h (fun r h' => ∃ v, r = some (.int v) ∧ fC (fun b => b = 2) h h' ∧ txS h' N (amS (h.2.1 3) N lo hi s) ∧ ((amS (h.2.1 3) N lo hi s).1 = 0 → v = nI (amV (h.2.1 3) N s.2))) := by
  refine jx_tr jM_Tx_takeNumber rfl rfl (lv := [some (.ref 2), some (.int lo), some (.int hi), none]) rfl ?_
  obtain ⟨q1, q2, q3, q4⟩ := id q
  by_cases f0 : ¬ s.1 = 0
  · skip
    refine je_aload0 (pc := 0) d1009_0 rfl ?_
    refine je_iload1 (pc := 1) d1009_1 rfl ?_
    refine je_iload2 (pc := 2) d1009_2 rfl ?_
    refine ju_callv (pc := 3) (as := [_, _]) d1009_3 jL_1_64 jM_Tx_number rfl (by decide) (sK2 H) rfl (by exact Nat.le_of_ble_eq_true rfl) (t_Tx_number_n (d + 1) lo hi H q2 f0 (q4 f0)) (fun r3 h3 q3 => ?_)
    obtain ⟨rfl, e3⟩ := q3
    obtain rfl := e3.symm
    refine ju_istore3 (pc := 6) (lv' := [some _, some _, some _, some _]) d1009_6 rfl rfl ?_
    refine je_aload0 (pc := 7) d1009_7 rfl ?_
    refine ju_callv (pc := 8) (as := []) d1009_8 jL_1_25 jM_Tx_advance rfl (by decide) (sK2 H) rfl (by exact Nat.le_of_ble_eq_true rfl) (t_Tx_advance_n (d + 1) H q2 f0) (fun r8 h8 q8 => ?_)
    obtain ⟨rfl, e8⟩ := q8
    obtain rfl := e8.symm
    refine je_iload3 (pc := 11) d1009_11 rfl ?_
    refine je_iret (pc := 12) d1009_12 rfl ?_
    exact ⟨_, rfl, fC.rf, by rw [am_f f0]; exact q, fun z => by rw [am_f f0] at z; exact absurd z f0⟩
  have f0 := Decidable.of_not_not f0
  have q3 := q3 f0
  have sn := sk_N (T := h.2.1 3) q3.1
  match ek : nbK (h.2.1 3) N (skB (h.2.1 3) N s.2) lo hi with
  | some c =>
    refine je_aload0 (pc := 0) d1009_0 rfl ?_
    refine je_iload1 (pc := 1) d1009_1 rfl ?_
    refine je_iload2 (pc := 2) d1009_2 rfl ?_
    refine ju_callv (pc := 3) (as := [_, _]) d1009_3 jL_1_64 jM_Tx_number rfl (by decide) (sK2 H) rfl (by exact Nat.le_of_ble_eq_true rfl) (t_Tx_number (d + 1) (N := N) (b := skB (h.2.1 3) N s.2) lo hi H q3.2 hN sn hT) (fun r3 h3 q3n => ?_)
    obtain ⟨c4, rfl, eb⟩ := q3n.1 c ek
    obtain ⟨t1, t2⟩ := txS.bad (p := s.2) q1 eb (by omega) c4
    have H2 := t2.St H
    refine ju_istore3 (pc := 6) (lv' := [some _, some _, some _, some _]) d1009_6 rfl rfl ?_
    refine je_aload0 (pc := 7) d1009_7 rfl ?_
    refine ju_callv (pc := 8) (as := []) d1009_8 jL_1_25 jM_Tx_advance rfl (by decide) (sK2 H2) rfl (by exact Nat.le_of_ble_eq_true rfl) (t_Tx_advance_n (d + 1) H2 t1.2.1 (flt_nz (by omega) c4)) (fun r8 h8 q8 => ?_)
    obtain ⟨rfl, e8⟩ := q8
    obtain rfl := e8.symm
    refine je_iload3 (pc := 11) d1009_11 rfl ?_
    refine je_iret (pc := 12) d1009_12 rfl ?_
    exact ⟨_, rfl, t2, by rw [am_s f0 ek]; exact t1, fun z => by rw [am_s f0 ek] at z; exact absurd z (flt_nz (by omega) c4)⟩
  | none =>
    refine je_aload0 (pc := 0) d1009_0 rfl ?_
    refine je_iload1 (pc := 1) d1009_1 rfl ?_
    refine je_iload2 (pc := 2) d1009_2 rfl ?_
    refine ju_callv (pc := 3) (as := [_, _]) d1009_3 jL_1_64 jM_Tx_number rfl (by decide) (sK2 H) rfl (by exact Nat.le_of_ble_eq_true rfl) (t_Tx_number (d + 1) (N := N) (b := skB (h.2.1 3) N s.2) lo hi H q3.2 hN sn hT) (fun r3 h3 q3n => ?_)
    obtain ⟨rfl, eb⟩ := q3n.2 ek
    obtain rfl := eb.symm
    refine ju_istore3 (pc := 6) (lv' := [some _, some _, some _, some _]) d1009_6 rfl rfl ?_
    refine je_aload0 (pc := 7) d1009_7 rfl ?_
    refine ju_callv (pc := 8) (as := []) d1009_8 jL_1_25 jM_Tx_advance rfl (by decide) (sK2 H) rfl (by exact Nat.le_of_ble_eq_true rfl) (t_Tx_advance (d + 1) (N := N) (u := tkE (h.2.1 3) N (skB (h.2.1 3) N s.2)) H q1 q3.2.2.2.1 hN (tk_N sn).2 (q2.trans f0)) (fun r8 h8 q8 => ?_)
    obtain ⟨rfl, g1, g2, g3⟩ := q8
    refine je_iload3 (pc := 11) d1009_11 rfl ?_
    refine je_iret (pc := 12) d1009_12 rfl ?_
    refine ⟨_, rfl, g1, ?_, fun _ => rfl⟩
    rw [am_n f0 ek]
    refine ⟨(g2 1 (by decide) (by decide) (by decide)).trans q1, (g2 5 (by decide) (by decide) (by decide)).trans (q2.trans f0), fun _ => ⟨(tk_N sn).2, ?_⟩, fun z => absurd rfl z⟩
    rw [g1.2 3 (by decide)]
    exact g3
def goS (T : Nat → Int32) (N : Nat) (s : Int32 × Nat) : Bool × (Int32 × Nat) :=
  if ¬ s.1 = 0 then (false, s) else if N ≤ skB T N s.2 then (false, s) else if T (skB T N s.2) = 59 then (true, (0, skB T N s.2 + 1)) else (false, (fltI (skB T N s.2) 0, s.2))
theorem tkS_59 {T : Nat → Int32} {N b : Nat} : tkS T N b = 59 ↔ (b < N ∧ T b = 59) := by
  unfold tkS
  constructor
  · intro h
    split at h
    · exact absurd h (by decide)
    · split at h
      · exact absurd h (by decide)
      · split at h
        · exact absurd h (by decide)
        · split at h
          · split at h <;> exact absurd h (by decide)
          · exact ⟨by omega, h⟩
  · intro h
    have e := h.2
    rw [if_neg (by omega), if_neg (by rw [e]; decide), if_neg (by rw [e]; decide), if_neg (fun z => by have := of_decide_eq_true z; rw [e] at this; exact absurd this.1 (by decide))]
    exact e
theorem tkS_m1 {T : Nat → Int32} {N b : Nat} (hT : bytT T N) : tkS T N b = -1 ↔ N ≤ b := by
  unfold tkS
  constructor
  · intro h
    split at h
    · assumption
    · split at h
      · exact absurd h (by decide)
      · split at h
        · exact absurd h (by decide)
        · split at h
          · split at h <;> exact absurd h (by decide)
          · have := (hT b (by omega)).1
            rw [h] at this
            exact absurd this (by decide)
  · intro h
    rw [if_pos h]
theorem tkE_59 {T : Nat → Int32} {N b : Nat} (h : b < N) (e : T b = 59) : tkE T N b = b + 1 := by
  unfold tkE
  rw [if_neg (by omega), if_neg (by rw [e]; decide), if_neg (by rw [e]; decide), if_neg (fun z => by have := of_decide_eq_true z; rw [e] at this; exact absurd this.1 (by decide))]
set_option maxHeartbeats 2000000 in
theorem t_Tx_goesOn (d : Nat) {bc bs : Nat} {h : jx_H} {N : Nat} {s : Int32 × Nat} (H : jx_St h) (q : txS h N s) (hN : N ≤ 400) (hT : bytT (h.2.1 3) N) : jx_Tr (d + 5) bc bs 1011 [.ref 2] h (fun r h' => r = some (.int (b2 ((goS (h.2.1 3) N s).1 = true))) ∧ fC (fun b => b = 2) h h' ∧ txS h' N (goS (h.2.1 3) N s).2) := by
  refine jx_tr jM_Tx_goesOn rfl rfl (lv := [some (.ref 2)]) rfl ?_
  obtain ⟨q1, q2, q3, q4⟩ := id q
  by_cases f0 : ¬ s.1 = 0
  · skip
    refine je_aload0 (pc := 0) d1011_0 rfl ?_
    refine ju_geti (pc := 1) d1011_1 jF_1_37 rfl (sK2 H) ?_
    refine ju_eqi (v := -2) (q4 f0) ?_
    refine je_bipush (pc := 4) (v := 59) d1011_4 rfl ?_
    refine je_icne (pc := 6) 15 d1011_6 (by decide) (fun c6 => ?_) (fun c6 => absurd c6 (by decide))
    refine je_aload0 (pc := 15) d1011_15 rfl ?_
    refine ju_geti (pc := 16) d1011_16 jF_1_37 rfl (sK2 H) ?_
    refine ju_eqi (v := -2) (q4 f0) ?_
    refine je_iconst (pc := 19) (v := -1) d1011_19 rfl ?_
    refine je_iceq (pc := 20) 28 d1011_20 (by decide) (fun c20 => absurd c20 (by decide)) (fun c20 => ?_)
    refine je_aload0 (pc := 23) d1011_23 rfl ?_
    refine je_iconst (pc := 24) (v := 0) d1011_24 rfl ?_
    refine ju_callv (pc := 25) (as := [_]) d1011_25 jL_1_60 jM_Tx_blame rfl (by decide) (sK2 H) rfl (by exact Nat.le_of_ble_eq_true rfl) (t_Tx_blame_n (d + 3) H q2 f0 _) (fun r25 h25 q25 => ?_)
    obtain ⟨rfl, e25⟩ := q25
    obtain rfl := e25.symm
    refine je_iconst (pc := 28) (v := 0) d1011_28 rfl ?_
    refine je_zret (pc := 29) d1011_29 rfl (by decide) ?_
    have eg : goS (h.2.1 3) N s = (false, s) := by unfold goS; rw [if_pos f0]
    rw [eg]
    exact ⟨rfl, fC.rf, q⟩
  have f0 := Decidable.of_not_not f0
  have q3 := q3 f0
  have sn := sk_N (T := h.2.1 3) q3.1
  refine je_aload0 (pc := 0) d1011_0 rfl ?_
  refine ju_geti (pc := 1) d1011_1 jF_1_37 rfl (sK2 H) ?_
  refine ju_eqi (v := tkS (h.2.1 3) N (skB (h.2.1 3) N s.2)) q3.2.2.2.2.1 ?_
  refine je_bipush (pc := 4) (v := 59) d1011_4 rfl ?_
  refine je_icne (pc := 6) 15 d1011_6 (by decide) (fun c6 => ?_) (fun c6 => ?_)
  · have n59 : ¬ (skB (h.2.1 3) N s.2 < N ∧ (h.2.1 3) (skB (h.2.1 3) N s.2) = 59) := fun z => c6 (tkS_59.mpr z)
    refine je_aload0 (pc := 15) d1011_15 rfl ?_
    refine ju_geti (pc := 16) d1011_16 jF_1_37 rfl (sK2 H) ?_
    refine ju_eqi (v := tkS (h.2.1 3) N (skB (h.2.1 3) N s.2)) q3.2.2.2.2.1 ?_
    refine je_iconst (pc := 19) (v := -1) d1011_19 rfl ?_
    refine je_iceq (pc := 20) 28 d1011_20 (by decide) (fun c20 => ?_) (fun c20 => ?_)
    · refine je_iconst (pc := 28) (v := 0) d1011_28 rfl ?_
      refine je_zret (pc := 29) d1011_29 rfl (by decide) ?_
      have eg : goS (h.2.1 3) N s = (false, s) := by unfold goS; rw [if_neg (fun z => z f0), if_pos ((tkS_m1 hT).mp c20)]
      rw [eg]
      exact ⟨rfl, fC.rf, q⟩
    · refine je_aload0 (pc := 23) d1011_23 rfl ?_
      refine je_iconst (pc := 24) (v := 0) d1011_24 rfl ?_
      refine ju_callv (pc := 25) (as := [_]) d1011_25 jL_1_60 jM_Tx_blame rfl (by decide) (sK2 H) rfl (by exact Nat.le_of_ble_eq_true rfl) (t_Tx_blame (d + 3) (b := skB (h.2.1 3) N s.2) (c := 0) H (q2.trans f0) q3.2.2.1 (by decide) (by omega)) (fun r25 h25 q25 => ?_)
      obtain ⟨rfl, eb⟩ := q25
      obtain ⟨t1, t2⟩ := txS.bad (p := s.2) q1 eb (by omega) (by decide)
      refine je_iconst (pc := 28) (v := 0) d1011_28 rfl ?_
      refine je_zret (pc := 29) d1011_29 rfl (by decide) ?_
      have eg : goS (h.2.1 3) N s = (false, (fltI (skB (h.2.1 3) N s.2) 0, s.2)) := by unfold goS; rw [if_neg (fun z => z f0), if_neg (fun z => c20 ((tkS_m1 hT).mpr z)), if_neg (fun z => n59 ⟨Nat.lt_of_not_le (fun y => c20 ((tkS_m1 hT).mpr y)), z⟩)]
      rw [eg]
      exact ⟨rfl, t2, t1⟩
  · have c59 := tkS_59.mp c6
    refine je_aload0 (pc := 9) d1011_9 rfl ?_
    refine ju_callv (pc := 10) (as := []) d1011_10 jL_1_25 jM_Tx_advance rfl (by decide) (sK2 H) rfl (by exact Nat.le_of_ble_eq_true rfl) (t_Tx_advance (d + 1) (N := N) (u := skB (h.2.1 3) N s.2 + 1) H q1 (by rw [q3.2.2.2.1, tkE_59 c59.1 c59.2]) hN (by omega) (q2.trans f0)) (fun r10 h10 q10 => ?_)
    obtain ⟨rfl, g1, g2, g3⟩ := q10
    refine je_iconst (pc := 13) (v := 1) d1011_13 rfl ?_
    refine je_zret (pc := 14) d1011_14 rfl (by decide) ?_
    have eg : goS (h.2.1 3) N s = (true, (0, skB (h.2.1 3) N s.2 + 1)) := by unfold goS; rw [if_neg (fun z => z f0), if_neg (by omega), if_pos c59.2]
    rw [eg]
    refine ⟨rfl, g1, (g2 1 (by decide) (by decide) (by decide)).trans q1, (g2 5 (by decide) (by decide) (by decide)).trans (q2.trans f0), fun _ => ⟨by show skB (h.2.1 3) N s.2 + 1 ≤ N; omega, ?_⟩, fun z => absurd rfl z⟩
    rw [g1.2 3 (by decide)]
    exact g3
