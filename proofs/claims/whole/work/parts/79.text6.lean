/-! the model takes numbers -/
def mtS (h : jx_H) (N : Nat) (s : Int32 × Nat) : Prop := h.2.1 253 27 = nI N ∧ h.2.1 253 29 = s.1 ∧ ∃ p, p ≤ N ∧ h.2.1 253 28 = nI p ∧ (s.1 = 0 → p = s.2)
theorem in_g (x lo hi : Int32) : b2 (lo.toInt64 ≤ x.toInt64 ∧ x.toInt64 ≤ hi.toInt64) = b2 (¬ (x < lo ∨ hi < x)) := by
  refine b2_c ?_
  rw [fa_wide_le, fa_wide_le, fa_le, fa_le, fa_lt, fa_lt]
  omega
theorem nbK_0 {T : Nat → Int32} {N b : Nat} {lo hi : Int32} (h : ¬ (b < N ∧ isDg (T b) = true)) : nbK T N b lo hi = some 0 := by unfold nbK; rw [if_pos h]
theorem nbK_1 {T : Nat → Int32} {N b : Nat} {lo hi : Int32} (h : b < N ∧ isDg (T b) = true) (q : 5 < dgs T N b ∨ nI (vlN T b (fv5 (dgs T N b))) < lo ∨ hi < nI (vlN T b (fv5 (dgs T N b)))) : nbK T N b lo hi = some 1 := by unfold nbK; rw [if_neg (fun z => z h), if_pos q]
theorem nbK_n {T : Nat → Int32} {N b : Nat} {lo hi : Int32} (h : b < N ∧ isDg (T b) = true) (q : ¬ (5 < dgs T N b ∨ nI (vlN T b (fv5 (dgs T N b))) < lo ∨ hi < nI (vlN T b (fv5 (dgs T N b))))) : nbK T N b lo hi = none := by unfold nbK; rw [if_neg (fun z => z h), if_neg q]
set_option maxHeartbeats 4000000 in
theorem t_Mo_amount (d : Nat) {bc bs : Nat} {h : jx_H} {N : Nat} {s : Int32 × Nat} (lo hi : Int32) (H : jx_St h) (q : mtS h N s) (hN : N ≤ 400) : jx_Tr (d + 4) bc bs 12015 [.ref 253, .int lo, .int hi] h (fun r h' => ∃ v, r = some (.int v) ∧ fC (fun b => b = 253) h h' ∧ (∀ j, j ≠ 28 → j ≠ 29 → h'.2.1 253 j = h.2.1 253 j) ∧ mtS h' N (amS (mT h) N lo hi s) ∧ ((amS (mT h) N lo hi s).1 = 0 → v = nI (amV (mT h) N s.2))) := by
  refine jx_tr jM_Mo_amount rfl rfl (lv := [some (.ref 253), some (.int lo), some (.int hi), none, none]) rfl ?_
  obtain ⟨q1, q2, p, q3, q4, q5⟩ := id q
  by_cases f0 : ¬ s.1 = 0
  · skip
    refine je_aload0 (pc := 0) d12015_0 rfl ?_
    refine ju_callv (pc := 1) (as := []) d12015_1 jL_12_237 jM_Mo_blanks rfl (by decide) (sK253 H) rfl (by exact Nat.le_of_ble_eq_true rfl) (t_Mo_blanks (d + 1) (N := N) (p := p) H q1 q4 hN (by omega)) (fun r1 h1 q1b => ?_)
    obtain ⟨rfl, g1, g2, g3⟩ := q1b
    have H1 := g1.St H
    have et : mT h1 = mT h := by unfold mT; rw [g1.2 280 (by decide)]
    have t1 : h1.2.1 253 27 = nI N := (g2 27 (by decide)).trans q1
    have fl : h1.2.1 253 29 = s.1 := (g2 29 (by decide)).trans q2
    refine je_aload0 (pc := 4) d12015_4 rfl ?_
    refine ju_geti (pc := 5) d12015_5 jF_12_217 rfl (sK253 H1) ?_
    refine ju_eqi (v := nI (skB (mT h) N p)) g3 ?_
    refine ju_istore3 (pc := 8) (lv' := [some _, some _, some _, some _, none]) d12015_8 rfl rfl ?_
    refine je_aload0 (pc := 9) d12015_9 rfl ?_
    refine ju_geti (pc := 10) d12015_10 jF_12_214 rfl (sK253 H1) ?_
    refine ju_eqi (v := s.1) fl ?_
    refine je_ifne (pc := 13) 26 d12015_13 (by decide) (fun c13 => ?_) (fun c13 => absurd c13 f0)
    refine je_iconst (pc := 26) (v := 0) d12015_26 rfl ?_
    refine ju_istore (pc := 27) (lv' := [some _, some _, some _, some _, some _]) d12015_27 rfl rfl ?_
    refine je_aload0 (pc := 29) d12015_29 rfl ?_
    refine ju_geti (pc := 30) d12015_30 jF_12_214 rfl (sK253 H1) ?_
    refine ju_eqi (v := s.1) fl ?_
    refine je_ifne (pc := 33) 55 d12015_33 (by decide) (fun c33 => ?_) (fun c33 => absurd c33 f0)
    refine je_iload (pc := 55) d12015_55 rfl ?_
    refine je_iret (pc := 57) d12015_57 rfl ?_
    have bn := sk_N (T := mT h) q3
    exact ⟨_, rfl, g1, fun j a1 _ => g2 j a1, by rw [am_f f0]; exact ⟨t1, fl, _, bn, g3, fun z => absurd z f0⟩, fun z => by rw [am_f f0] at z; exact absurd z f0⟩
  have f0 := Decidable.of_not_not f0
  obtain rfl := q5 f0
  have bn := sk_N (T := mT h) q3
  refine je_aload0 (pc := 0) d12015_0 rfl ?_
  refine ju_callv (pc := 1) (as := []) d12015_1 jL_12_237 jM_Mo_blanks rfl (by decide) (sK253 H) rfl (by exact Nat.le_of_ble_eq_true rfl) (t_Mo_blanks (d + 1) (N := N) (p := s.2) H q1 q4 hN (by omega)) (fun r1 h1 q1b => ?_)
  obtain ⟨rfl, g1, g2, g3⟩ := q1b
  have H1 := g1.St H
  have et : mT h1 = mT h := by unfold mT; rw [g1.2 280 (by decide)]
  have t1 : h1.2.1 253 27 = nI N := (g2 27 (by decide)).trans q1
  have fl : h1.2.1 253 29 = s.1 := (g2 29 (by decide)).trans q2
  refine je_aload0 (pc := 4) d12015_4 rfl ?_
  refine ju_geti (pc := 5) d12015_5 jF_12_217 rfl (sK253 H1) ?_
  refine ju_eqi (v := nI (skB (mT h) N s.2)) g3 ?_
  refine ju_istore3 (pc := 8) (lv' := [some _, some _, some _, some _, none]) d12015_8 rfl rfl ?_
  refine je_aload0 (pc := 9) d12015_9 rfl ?_
  refine ju_geti (pc := 10) d12015_10 jF_12_214 rfl (sK253 H1) ?_
  refine ju_eqi (v := 0) (fl.trans f0) ?_
  refine je_ifne (pc := 13) 26 d12015_13 (by decide) (fun c13 => absurd c13 (fun z => z rfl)) (fun c13 => ?_)
  by_cases hd : ¬ ((skB (mT h) N s.2) < N ∧ isDg (mT h (skB (mT h) N s.2)) = true)
  · skip
    refine je_aload0 (pc := 16) d12015_16 rfl ?_
    refine je_ldcw (pc := 17) d12015_17 jK_12_261 ?_
    refine ju_callv (pc := 20) (as := [_]) d12015_20 jL_12_262 jM_Mo_digits rfl (by decide) (sK253 H1) rfl (by exact Nat.le_of_ble_eq_true rfl) (t_Mo_digits d (N := N) (p := skB (mT h) N s.2) H1 t1 g3 hN (by omega) (fl.trans f0)) (fun r20 h20 q20 => ?_)
    obtain ⟨d1, d2, d3, d4⟩ := q20
    rw [et] at d3 d4
    have H2 := d1.St H1
    have fr1 := g1.tr d1
    have fr2 : ∀ j, j ≠ 28 → j ≠ 29 → h20.2.1 253 j = h.2.1 253 j := fun j a1 a2 => (d2 j a1 a2).trans (g2 j a1)
    obtain ⟨rfl, p2, f2⟩ := d3 hd
    refine je_goto (pc := 23) 27 d12015_23 (by decide) ?_
    refine ju_istore (pc := 27) (lv' := [some _, some _, some _, some _, some _]) d12015_27 rfl rfl ?_
    refine je_aload0 (pc := 29) d12015_29 rfl ?_
    refine ju_geti (pc := 30) d12015_30 jF_12_214 rfl (sK253 H2) ?_
    refine ju_eqi (v := fltI (skB (mT h) N s.2) 0) f2 ?_
    refine je_ifne (pc := 33) 55 d12015_33 (by decide) (fun c33 => ?_) (fun c33 => absurd c33 (flt_nz (by omega) (by decide)))
    refine je_iload (pc := 55) d12015_55 rfl ?_
    refine je_iret (pc := 57) d12015_57 rfl ?_
    have nk := nbK_0 (lo := lo) (hi := hi) hd
    rw [am_s f0 nk]
    refine ⟨_, rfl, fr1, fr2, ⟨(fr2 27 (by decide) (by decide)).trans q1, f2, _, bn, p2, fun z => absurd z (flt_nz (by omega) (by decide))⟩, fun z => absurd z (flt_nz (by omega) (by decide))⟩
  have hd := Decidable.of_not_not hd
  refine je_aload0 (pc := 16) d12015_16 rfl ?_
  refine je_ldcw (pc := 17) d12015_17 jK_12_261 ?_
  refine ju_callv (pc := 20) (as := [_]) d12015_20 jL_12_262 jM_Mo_digits rfl (by decide) (sK253 H1) rfl (by exact Nat.le_of_ble_eq_true rfl) (t_Mo_digits d (N := N) (p := skB (mT h) N s.2) H1 t1 g3 hN (by omega) (fl.trans f0)) (fun r20 h20 q20 => ?_)
  obtain ⟨d1, d2, d3, d4⟩ := q20
  rw [et] at d3 d4
  have H2 := d1.St H1
  have fr1 := g1.tr d1
  have fr2 : ∀ j, j ≠ 28 → j ≠ 29 → h20.2.1 253 j = h.2.1 253 j := fun j a1 a2 => (d2 j a1 a2).trans (g2 j a1)
  obtain ⟨rfl, p2, f2⟩ := d4 hd
  refine je_goto (pc := 23) 27 d12015_23 (by decide) ?_
  refine ju_istore (pc := 27) (lv' := [some _, some _, some _, some _, some _]) d12015_27 rfl rfl ?_
  refine je_aload0 (pc := 29) d12015_29 rfl ?_
  refine ju_geti (pc := 30) d12015_30 jF_12_214 rfl (sK253 H2) ?_
  refine je_ifne (pc := 33) 55 d12015_33 (by decide) (fun c33 => ?_) (fun c33 => ?_)
  · refine je_iload (pc := 55) d12015_55 rfl ?_
    refine je_iret (pc := 57) d12015_57 rfl ?_
    have n5 : 5 < dgs (mT h) N (skB (mT h) N s.2) := Decidable.of_not_not (fun z => c33 (by rw [f2, if_neg z]))
    rw [if_pos n5] at f2
    have nk := nbK_1 (lo := lo) (hi := hi) hd (Or.inl n5)
    rw [am_s f0 nk]
    refine ⟨_, rfl, fr1, fr2, ⟨(fr2 27 (by decide) (by decide)).trans q1, f2, _, (tk_N bn).2, p2, fun z => absurd z (flt_nz (by omega) (by decide))⟩, fun z => absurd z (flt_nz (by omega) (by decide))⟩
  · refine je_iload (pc := 36) d12015_36 rfl ?_
    refine je_i2l (pc := 38) d12015_38 ?_
    refine je_iload1 (pc := 39) d12015_39 rfl ?_
    refine je_i2l (pc := 40) d12015_40 ?_
    refine je_iload2 (pc := 41) d12015_41 rfl ?_
    refine je_i2l (pc := 42) d12015_42 ?_
    refine ju_calls (pc := 43) (as := [_, _, _]) d12015_43 jL_12_170 jM_Mo_in rfl rfl (by exact Nat.le_of_ble_eq_true rfl) (t_Mo_in (d + 2) _ _ _) (fun r43 h43 q43 => ?_)
    obtain ⟨rfl, e43⟩ := q43
    obtain rfl := e43.symm
    refine ju_eqi (v := b2 (¬ (nI (vlN (mT h) (skB (mT h) N s.2) (fv5 (dgs (mT h) N (skB (mT h) N s.2)))) < lo ∨ hi < nI (vlN (mT h) (skB (mT h) N s.2) (fv5 (dgs (mT h) N (skB (mT h) N s.2))))))) (in_g _ lo hi) ?_
    refine jb_ifne (pc := 46) 55 d12015_46 (by decide) (fun c46 => ?_) (fun c46 => ?_)
    · refine je_iload (pc := 55) d12015_55 rfl ?_
      refine je_iret (pc := 57) d12015_57 rfl ?_
      have n5 : ¬ 5 < dgs (mT h) N (skB (mT h) N s.2) := fun z => by rw [f2, if_pos z] at c33; exact flt_nz (by omega) (by decide) c33
      have nk := nbK_n (lo := lo) (hi := hi) hd (fun z => z.elim n5 c46)
      rw [am_n f0 nk]
      exact ⟨_, rfl, fr1, fr2, ⟨(fr2 27 (by decide) (by decide)).trans q1, c33, _, (tk_N bn).2, p2, fun _ => rfl⟩, fun _ => rfl⟩
    · refine je_aload0 (pc := 49) d12015_49 rfl ?_
      refine je_iconst (pc := 50) (v := 1) d12015_50 rfl ?_
      refine je_iload3 (pc := 51) d12015_51 rfl ?_
      refine ju_callv (pc := 52) (as := [_, _]) d12015_52 jL_12_253 jM_Mo_fails rfl (by decide) (sK253 H2) rfl (by exact Nat.le_of_ble_eq_true rfl) (t_Mo_fails (d + 2) (q := skB (mT h) N s.2) (c := 1) H2 (by omega) (by decide)) (fun r52 h52 q52 => ?_)
      obtain ⟨rfl, eb⟩ := q52
      rw [if_pos c33] at eb
      refine je_iload (pc := 55) d12015_55 rfl ?_
      refine je_iret (pc := 57) d12015_57 rfl ?_
      have nk := nbK_1 (lo := lo) (hi := hi) hd (Or.inr (Decidable.of_not_not c46))
      rw [eb]
      rw [am_s f0 nk]
      refine ⟨_, rfl, fr1.wI rfl, (fun j a1 a2 => by rw [wI_at, jx_up_ne _ _ a2]; exact fr2 j a1 a2), ⟨(by rw [wI_at, jx_up_ne _ _ (by decide)]; exact (fr2 27 (by decide) (by decide)).trans q1), (by rw [wI_at, jx_up_self]), _, (tk_N bn).2, (by rw [wI_at, jx_up_ne _ _ (by decide)]; exact p2), fun z => absurd z (flt_nz (by omega) (by decide))⟩, fun z => absurd z (flt_nz (by omega) (by decide))⟩
