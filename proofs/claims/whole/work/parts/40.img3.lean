/-! back -/
set_option maxHeartbeats 2000000 in
theorem t_Db_back_n (d : Nat) {bc bs : Nat} {h : jx_H} (H : jx_St h) (x : Int32) (G : ¬ (¬ x < 0 ∧ x < 4)) : jx_Tr (d + 4) bc bs 41 [.ref 1, .int x] h (fun r h' => r = some (.int (-1)) ∧ h' = h) := by
  refine jx_tr jM_Db_back rfl rfl (lv := [some (.ref 1), some (.int x)]) rfl ?_
  refine je_iload1 (pc := 0) d41_0 rfl ?_
  refine je_iflt (pc := 1) 18 d41_1 (by decide) (fun c1 => ?_) (fun c1 => ?_)
  · refine je_iconst (pc := 18) (v := -1) d41_18 rfl ?_
    refine je_iret (pc := 19) d41_19 rfl ?_
    exact ⟨rfl, rfl⟩
  · refine je_iload1 (pc := 4) d41_4 rfl ?_
    refine je_iconst (pc := 5) (v := 4) d41_5 rfl ?_
    refine ju_icge (pc := 6) 18 d41_6 (by decide) (fun c6 => ?_) (fun c6 => ?_)
    · refine je_iconst (pc := 18) (v := -1) d41_18 rfl ?_
      refine je_iret (pc := 19) d41_19 rfl ?_
      exact ⟨rfl, rfl⟩
    · exact absurd ⟨c1, c6⟩ G
set_option maxHeartbeats 2000000 in
theorem t_Db_back_m (d : Nat) {bc bs : Nat} {h : jx_H} {k : Nat} (H : jx_St h) (hk : k < 4) (G : h.2.1 50 k = 0) : jx_Tr (d + 4) bc bs 41 [.ref 1, .int (nI k)] h (fun r h' => r = some (.int (-1)) ∧ h' = h) := by
  refine jx_tr jM_Db_back rfl rfl (lv := [some (.ref 1), some (.int (nI k))]) rfl ?_
  refine je_iload1 (pc := 0) d41_0 rfl ?_
  refine je_iflt (pc := 1) 18 d41_1 (by decide) (fun c1 => absurd c1 (nI_pos (by omega))) (fun c1 => ?_)
  refine je_iload1 (pc := 4) d41_4 rfl ?_
  refine je_iconst (pc := 5) (v := 4) d41_5 rfl ?_
  refine ju_icge (pc := 6) 18 d41_6 (by decide) (fun c6 => absurd c6 (fun z => z (nI_lt (b := 4) hk (by decide)))) (fun c6 => ?_)
  refine je_aload0 (pc := 9) d41_9 rfl ?_
  refine ju_getr (pc := 10) (b := 50) d41_10 jF_0_49 rfl (sK1 H) (sR1_7 H) ?_
  refine je_iload1 (pc := 13) d41_13 rfl ?_
  refine ju_zald (pc := 14) (jn := (k)) d41_14 (sK50 H) (vp_in_nI (by omega) (by decide)) (nI_clamp (by omega)) ?_
  refine je_ifne (pc := 15) 20 d41_15 (by decide) (fun c15 => absurd c15 (fun z => z G)) (fun c15 => ?_)
  refine je_iconst (pc := 18) (v := -1) d41_18 rfl ?_
  refine je_iret (pc := 19) d41_19 rfl ?_
  exact ⟨rfl, rfl⟩
set_option maxHeartbeats 2000000 in
theorem t_Db_back (d : Nat) {bc bs : Nat} {h : jx_H} {k s : Nat} {o : Option Nat} (H : jx_St h) (hk : k < 4) (hr : h.2.2.2 (161 + 23 * k) 0 = some s) (G : h.2.1 50 k = 1) (T : ∀ d bc bs h1, cpW h h1 26 (161 + 23 * k) s → jx_Tr (d + 2) bc bs 4 [.ref 1] h1 (fun r h' => r = none ∧ h' = jx_wR (jx_wR h1 51 0 (some s)) 51 1 o)) : jx_Tr (d + 4) bc bs 41 [.ref 1, .int (nI k)] h (fun r h' => ∃ h1, r = some (.int (h1.2.1 40 5)) ∧ cpW h h1 26 (161 + 23 * k) s ∧ h' = jx_wR (jx_wR h1 51 0 (some s)) 51 1 o) := by
  refine jx_tr jM_Db_back rfl rfl (lv := [some (.ref 1), some (.int (nI k))]) rfl ?_
  refine je_iload1 (pc := 0) d41_0 rfl ?_
  refine je_iflt (pc := 1) 18 d41_1 (by decide) (fun c1 => absurd c1 (nI_pos (by omega))) (fun c1 => ?_)
  refine je_iload1 (pc := 4) d41_4 rfl ?_
  refine je_iconst (pc := 5) (v := 4) d41_5 rfl ?_
  refine ju_icge (pc := 6) 18 d41_6 (by decide) (fun c6 => absurd c6 (fun z => z (nI_lt (b := 4) hk (by decide)))) (fun c6 => ?_)
  refine je_aload0 (pc := 9) d41_9 rfl ?_
  refine ju_getr (pc := 10) (b := 50) d41_10 jF_0_49 rfl (sK1 H) (sR1_7 H) ?_
  refine je_iload1 (pc := 13) d41_13 rfl ?_
  refine ju_zald (pc := 14) (jn := (k)) d41_14 (sK50 H) (vp_in_nI (by omega) (by decide)) (nI_clamp (by omega)) ?_
  refine je_ifne (pc := 15) 20 d41_15 (by decide) (fun c15 => ?_) (fun c15 => absurd c15 (by rw [G]; decide))
  refine je_aload0 (pc := 20) d41_20 rfl ?_
  refine ju_getr (pc := 21) (b := 26) d41_21 jF_0_41 rfl (sK1 H) (sR1_5 H) ?_
  refine je_aload0 (pc := 24) d41_24 rfl ?_
  refine ju_getr (pc := 25) (b := 49) d41_25 jF_0_45 rfl (sK1 H) (sR1_6 H) ?_
  refine je_iload1 (pc := 28) d41_28 rfl ?_
  refine je_aald (pc := 29) d41_29 (by decide) (sK49 H) (vp_in_nI (by omega) (by decide)) (v := .ref (161 + 23 * k)) (r49 H hk) ?_
  refine ju_callv (pc := 30) (as := [_]) d41_30 jL_0_321 jM_Wo_copyFrom rfl (by decide) (sK26 H) rfl (by exact Nat.le_of_ble_eq_true rfl) (t_Wo_copyFrom d (a := 26) (b := 161 + 23 * k) (s := s) (sWn H) (sWi H hk) hr (by omega)) (fun r30 h30 q30 => ?_)
  obtain ⟨rfl, w⟩ := q30
  have H2 := w.1.St (H.wR (v := some s) (a := 26) (k := 0) rfl)
  refine je_aload0 (pc := 33) d41_33 rfl ?_
  refine ju_callv (pc := 34) (as := []) d41_34 jL_0_103 jM_Db_renewLaw rfl (by decide) (sK1 H2) rfl (by exact Nat.le_of_ble_eq_true rfl) (T (d + 1) 0 0 h30 w) (fun r34 h34 q34 => ?_)
  obtain ⟨rfl, rfl⟩ := q34
  have H3 := (H2.wR (v := some s) (a := 51) (k := 0) rfl).wR (v := o) (a := 51) (k := 1) rfl
  refine je_aload0 (pc := 37) d41_37 rfl ?_
  refine ju_getr (pc := 38) (b := 26) d41_38 jF_0_41 rfl (sK1 H3) (sR1_5 H3) ?_
  refine ju_getr (pc := 41) (b := 40) d41_41 jF_0_124 rfl (sK26 H3) (sR26_1 H3) ?_
  refine ju_geti (pc := 44) d41_44 jF_0_177 rfl (sK40 H3) ?_
  refine je_iret (pc := 47) d41_47 rfl ?_
  exact ⟨h30, rfl, w, rfl⟩
set_option maxHeartbeats 2000000 in
theorem t_Mo_back_n (d : Nat) {bc bs : Nat} {h : jx_H} (H : jx_St h) (x : Int32) (G : ¬ (¬ x < 0 ∧ x < 4)) : jx_Tr (d + 3) bc bs 12113 [.ref 253, .int x] h (fun r h' => r = some (.int (-1)) ∧ h' = h) := by
  refine jx_tr jM_Mo_back rfl rfl (lv := [some (.ref 253), some (.int x)]) rfl ?_
  refine je_iload1 (pc := 0) d12113_0 rfl ?_
  refine je_i2l (pc := 1) d12113_1 ?_
  refine je_lconst0 (pc := 2) d12113_2 ?_
  refine je_ldc2 (pc := 3) d12113_3 jK_12_468 ?_
  refine ju_calls (pc := 6) (as := [_, _, _]) d12113_6 jL_12_170 jM_Mo_in rfl rfl (by exact Nat.le_of_ble_eq_true rfl) (t_Mo_in (d + 1) _ _ _) (fun r6 h6 q6 => ?_)
  obtain ⟨rfl, e6⟩ := q6
  obtain rfl := e6.symm
  refine ju_eqi (v := b2 (¬ x < 0 ∧ x < 4)) (in_3 _) ?_
  refine je_ifeq (pc := 9) 21 d12113_9 (by decide) (fun c9 => ?_) (fun c9 => ?_)
  · refine je_iconst (pc := 21) (v := -1) d12113_21 rfl ?_
    refine je_iret (pc := 22) d12113_22 rfl ?_
    exact ⟨rfl, rfl⟩
  · exact absurd (b2_n c9) G
set_option maxHeartbeats 2000000 in
theorem t_Mo_back_m (d : Nat) {bc bs : Nat} {h : jx_H} {k : Nat} (H : jx_St h) (hk : k < 4) (G : h.2.1 303 k = 0) : jx_Tr (d + 3) bc bs 12113 [.ref 253, .int (nI k)] h (fun r h' => r = some (.int (-1)) ∧ h' = h) := by
  refine jx_tr jM_Mo_back rfl rfl (lv := [some (.ref 253), some (.int (nI k))]) rfl ?_
  refine je_iload1 (pc := 0) d12113_0 rfl ?_
  refine je_i2l (pc := 1) d12113_1 ?_
  refine je_lconst0 (pc := 2) d12113_2 ?_
  refine je_ldc2 (pc := 3) d12113_3 jK_12_468 ?_
  refine ju_calls (pc := 6) (as := [_, _, _]) d12113_6 jL_12_170 jM_Mo_in rfl rfl (by exact Nat.le_of_ble_eq_true rfl) (t_Mo_in (d + 1) _ _ _) (fun r6 h6 q6 => ?_)
  obtain ⟨rfl, e6⟩ := q6
  obtain rfl := e6.symm
  refine ju_eqi (v := b2 (¬ nI k < 0 ∧ nI k < 4)) (in_3 _) ?_
  refine je_ifeq (pc := 9) 21 d12113_9 (by decide) (fun c9 => absurd c9 (fun z => b2_0.mp z ⟨nI_pos (by omega), nI_lt (b := 4) hk (by decide)⟩)) (fun c9 => ?_)
  refine je_aload0 (pc := 12) d12113_12 rfl ?_
  refine ju_getr (pc := 13) (b := 303) d12113_13 jF_12_163 rfl (sK253 H) (sR253_65 H) ?_
  refine je_iload1 (pc := 16) d12113_16 rfl ?_
  refine ju_zald (pc := 17) (jn := (k)) d12113_17 (sK303 H) (vp_in_nI (by omega) (by decide)) (nI_clamp (by omega)) ?_
  refine je_ifne (pc := 18) 23 d12113_18 (by decide) (fun c18 => absurd c18 (fun z => z G)) (fun c18 => ?_)
  refine je_iconst (pc := 21) (v := -1) d12113_21 rfl ?_
  refine je_iret (pc := 22) d12113_22 rfl ?_
  exact ⟨rfl, rfl⟩
set_option maxHeartbeats 2000000 in
theorem t_Mo_back (d : Nat) {bc bs : Nat} {h : jx_H} {k : Nat} (H : jx_St h) (hk : k < 4) (G : h.2.1 303 k = 1) : jx_Tr (d + 3) bc bs 12113 [.ref 253, .int (nI k)] h (fun r h' => r = some (.int (h'.2.1 254 5)) ∧ cyB h h' (1100 * k) 18) := by
  refine jx_tr jM_Mo_back rfl rfl (lv := [some (.ref 253), some (.int (nI k))]) rfl ?_
  refine je_iload1 (pc := 0) d12113_0 rfl ?_
  refine je_i2l (pc := 1) d12113_1 ?_
  refine je_lconst0 (pc := 2) d12113_2 ?_
  refine je_ldc2 (pc := 3) d12113_3 jK_12_468 ?_
  refine ju_calls (pc := 6) (as := [_, _, _]) d12113_6 jL_12_170 jM_Mo_in rfl rfl (by exact Nat.le_of_ble_eq_true rfl) (t_Mo_in (d + 1) _ _ _) (fun r6 h6 q6 => ?_)
  obtain ⟨rfl, e6⟩ := q6
  obtain rfl := e6.symm
  refine ju_eqi (v := b2 (¬ nI k < 0 ∧ nI k < 4)) (in_3 _) ?_
  refine je_ifeq (pc := 9) 21 d12113_9 (by decide) (fun c9 => absurd c9 (fun z => b2_0.mp z ⟨nI_pos (by omega), nI_lt (b := 4) hk (by decide)⟩)) (fun c9 => ?_)
  refine je_aload0 (pc := 12) d12113_12 rfl ?_
  refine ju_getr (pc := 13) (b := 303) d12113_13 jF_12_163 rfl (sK253 H) (sR253_65 H) ?_
  refine je_iload1 (pc := 16) d12113_16 rfl ?_
  refine ju_zald (pc := 17) (jn := (k)) d12113_17 (sK303 H) (vp_in_nI (by omega) (by decide)) (nI_clamp (by omega)) ?_
  refine je_ifne (pc := 18) 23 d12113_18 (by decide) (fun c18 => ?_) (fun c18 => absurd c18 (by rw [G]; decide))
  refine je_aload0 (pc := 23) d12113_23 rfl ?_
  refine je_iload1 (pc := 24) d12113_24 rfl ?_
  refine je_iconst (pc := 25) (v := 1) d12113_25 rfl ?_
  refine ju_callv (pc := 26) (as := [_, _]) d12113_26 jL_12_475 jM_Mo_carriesAll rfl (by decide) (sK253 H) rfl (by exact Nat.le_of_ble_eq_true rfl) (t_Mo_carriesAll_b d (k := k) (q := 1100 * k) H hk rfl) (fun r26 h26 q26 => ?_)
  obtain ⟨rfl, w⟩ := q26
  have H2 := w.1.St H
  refine je_aload0 (pc := 29) d12113_29 rfl ?_
  refine ju_getr (pc := 30) (b := 254) d12113_30 jF_12_9 rfl (sK253 H2) (sR253_1 H2) ?_
  refine je_iconst (pc := 33) (v := 5) d12113_33 rfl ?_
  refine ju_iald (pc := 34) (jn := 5) d12113_34 (sK254 H2) (by first | assumption | exact jx_ok_dec (by decide)) (by decide) ?_
  refine je_iret (pc := 35) d12113_35 rfl ?_
  exact ⟨rfl, w⟩
theorem op_back (x : Int32) : jo Inv 41 12113 [.int x] := jo_st (fun n h t nr rs X Y hn q => by
  obtain ⟨Q1, Q2, Q3, Q4, Q5, Q6, Q7, Q8, Q9⟩ := id q
  have no : ∀ (_ : ∀ d bc bs, jx_Tr (d + 4) bc bs 41 [.ref 1, .int x] h (fun r h' => r = some (.int (-1)) ∧ h' = h)) (_ : ∀ d bc bs h1, jx_St h1 → (∀ b, 253 ≤ b → b ≤ 303 → h1.2.1 b = h.2.1 b) → jx_Tr (d + 3) bc bs 12113 [.ref 253, .int x] h1 (fun r h' => r = some (.int (-1)) ∧ h' = h1)), ∃ (v : Int32) (X' : MW) (h0 : jx_H), InvB n h0 t nr rs Y ∧ (h0.1 = h.1 ∧ h0.2.1 = h.2.1) ∧ wfW (n + 1) nr X' ∧ lawOK h0 X' ∧
      jx_Tr 199 13 206 41 [.ref 1, .int x] h (fun r h1 => r = some (.int v) ∧ fC cRow h0 h1 ∧ rW h1 26 X') ∧
      ∀ h1, jx_St h1 → (∀ b, 253 ≤ b → b ≤ 303 → h1.2.1 b = h.2.1 b) → mW (gN h1) X → jx_Tr 199 0 0 12113 [.ref 253, .int x] h1 (fun r h2 => r = some (.int v) ∧ fM h1 h2 ∧ mW (gN h2) X') := by
    intro tc tm
    refine ⟨-1, X, h, q.B, ⟨rfl, rfl⟩, Q7.up (Nat.le_succ n) (Nat.le_refl nr), Q8, (tc 195 13 206).mono (fun r h1 e => ?_), fun h1 S1 g1 m1 => (tm 196 0 0 h1 S1 g1).mono (fun r h2 e => ?_)⟩
    · obtain ⟨rfl, rfl⟩ := e
      exact ⟨rfl, fC.rf, Q5⟩
    · obtain ⟨rfl, rfl⟩ := e
      exact ⟨rfl, fM.rf, m1⟩
  by_cases G : ¬ x < 0 ∧ x < 4
  · obtain ⟨k, hk, rfl⟩ := x4 G
    rcases Q9 k hk with ⟨z1, z2⟩ | ⟨z1, z2, z3, z4, z5⟩
    · exact no (fun d bc bs => t_Db_back_m d q.1 hk z1) (fun d bc bs h1 S1 g1 => t_Mo_back_m d S1 hk (by rw [g1 303 (by omega) (by omega)]; exact z2))
    · obtain ⟨⟨s, r1, r2, r3, r4⟩, r5, r6, r7, r8⟩ := id z3
      obtain ⟨o, ho, T⟩ : ∃ o : Option Nat, lawOK (jx_wR (jx_wR (jx_wR h 26 0 (some s)) 51 0 (some s)) 51 1 o) (Y k) ∧ ∀ d bc bs h1, cpW h h1 26 (161 + 23 * k) s → jx_Tr (d + 2) bc bs 4 [.ref 1] h1 (fun r h' => r = none ∧ h' = jx_wR (jx_wR h1 51 0 (some s)) 51 1 o) := by
        have S2 : ∀ h1, cpW h h1 26 (161 + 23 * k) s → jx_St h1 ∧ h1.2.2.2 26 0 = some s ∧ jx_Sp h1 s ∧ h1.2.1 26 2 = (Y k).2.2.1.1 ∧ h1.2.1 1 4 = nI nr := fun h1 c => by
          refine ⟨c.1.St (q.1.wR (v := some s) (a := 26) (k := 0) rfl), ?_, r3.rf c.1.1.1 (fun b b1 b2 => ?_), ?_, ?_⟩
          · rw [c.1.1.2, wR_at, jx_up_self]
          · rw [c.1.1.2]; exact wR_ne _ _ _ (fun e => by have := sRow_of r2 b1 b2; unfold sRow at this; omega)
          · rw [c.2.2.1.1]; exact r6.1
          · rw [c.1.2 1 (by omega)]; exact Q4.2.1
        rcases z5.2.2.1 with e | ⟨f, hf, e⟩
        · refine ⟨none, fun _ => ⟨?_, fun _ => ?_, fun f he _ => ?_⟩, fun d bc bs h1 c => ?_⟩
          · rw [wR_at, jx_up_ne _ _ (by decide), wR_at, jx_up_self, wR_ne _ _ _ (by decide), wR_ne _ _ _ (by decide), wR_at, jx_up_self]
          · rw [wR_at, jx_up_self]
          · rw [e] at he
            exact absurd (congrArg Int32.toInt he) (by rw [nI_toInt (by omega)]; show ¬ (-1 : Int) = _; omega)
          · obtain ⟨c1, c2, c3, c4, c5⟩ := S2 h1 c
            exact t_Db_renewLaw_n d c1 c2 c3 (c4.trans e)
        · refine ⟨some (125 + 6 * f), fun _ => ⟨?_, fun he => ?_, fun f' he h6 => ?_⟩, fun d bc bs h1 c => ?_⟩
          · rw [wR_at, jx_up_ne _ _ (by decide), wR_at, jx_up_self, wR_ne _ _ _ (by decide), wR_ne _ _ _ (by decide), wR_at, jx_up_self]
          · rw [e] at he
            exact absurd (congrArg Int32.toInt he) (by have := Q4.1; rw [nI_toInt (by omega)]; show ¬ _ = (-1 : Int); omega)
          · rw [e] at he
            have := Q4.1
            rw [wR_at, jx_up_self, (nI_eq (by omega) (by omega)).mp he]
          · obtain ⟨c1, c2, c3, c4, c5⟩ := S2 h1 c
            exact t_Db_renewLaw d c1 c2 c3 (c4.trans e) c5 hf Q4.1
      refine ⟨(Y k).2.1.2.2.2.2.2, Y k, jx_wR (jx_wR (jx_wR h 26 0 (some s)) 51 0 (some s)) 51 1 o, ((q.B.wR (a := 26) (k := 0) rfl (by unfold sRow; omega)).wR (a := 51) (k := 0) rfl (by unfold sRow; omega)).wR (a := 51) (k := 1) rfl (by unfold sRow; omega), ⟨rfl, rfl⟩, z5.up (Nat.le_succ n) (Nat.le_refl nr), ho, (t_Db_back 195 q.1 hk r1 z1 T).mono (fun r h1 e => ?_), fun h1 S1 g1 m1 => (t_Mo_back 196 S1 hk (by rw [g1 303 (by omega) (by omega)]; exact z2)).mono (fun r h2 e => ?_)⟩
      · obtain ⟨g, rfl, c, rfl⟩ := e
        have z : rW g 26 (Y k) := z3.cpy r1 c (fun c hc => by unfold sRow; omega) z5.2.2.2.2.1.1
        refine ⟨?_, ((c.1.mo (fun b hb => by unfold cRow kRow sRow; omega)).wR).wR, (z.wR (by unfold sRow; omega)).wR (by unfold sRow; omega)⟩
        have : g.2.1 40 5 = (Y k).2.1.2.2.2.2.2 := z.2.1.2.2.2.2.2
        rw [this]
      · obtain ⟨rfl, f1, f2, f3, f4, f5, f6⟩ := e
        have g302 : gI h1 k = gI h k := gI_of (g1 302 (by omega) (by omega)) k
        have m2 : mW (gN h2) (Y k) := z4.cg z5 (fun t ht j hj => by rw [f5 t ht j hj, ← g302, gI_at _ _ ht])
        refine ⟨?_, fM.of f1 (fun b hb => ?_) (f2 _ (by decide) (by decide) (by decide)) (f2 _ (by decide) (by decide) (by decide)) (f2 _ (by decide) (by decide) (by decide)), m2⟩
        · rw [m2.la.2.2.2]
        · rcases hb with hb | ⟨t, ht, hb⟩
          · exact Or.inr hb
          · have := iA_r t ht
            exact Or.inl (by unfold mRow; omega)
  · exact no (fun d bc bs => t_Db_back_n d q.1 x G) (fun d bc bs h1 S1 g1 => t_Mo_back_n d S1 x G))
