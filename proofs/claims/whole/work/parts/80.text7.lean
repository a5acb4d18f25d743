/-! the model goes on -/
set_option maxHeartbeats 4000000 in
theorem t_Mo_goesOn (d : Nat) {bc bs : Nat} {h : jx_H} {N : Nat} {s : Int32 × Nat} (H : jx_St h) (q : mtS h N s) (hN : N ≤ 400) : jx_Tr (d + 3) bc bs 12023 [.ref 253] h (fun r h' => r = some (.int (b2 ((goS (mT h) N s).1 = true))) ∧ fC (fun b => b = 253) h h' ∧ (∀ j, j ≠ 28 → j ≠ 29 → h'.2.1 253 j = h.2.1 253 j) ∧ h'.2.1 253 29 = (goS (mT h) N s).2.1 ∧ ((goS (mT h) N s).1 = true → mtS h' N (goS (mT h) N s).2)) := by
  refine jx_tr jM_Mo_goesOn rfl rfl (lv := [some (.ref 253), none]) rfl ?_
  obtain ⟨q1, q2, p, q3, q4, q5⟩ := id q
  by_cases f0 : ¬ s.1 = 0
  · skip
    refine je_aload0 (pc := 0) d12023_0 rfl ?_
    refine ju_callv (pc := 1) (as := []) d12023_1 jL_12_237 jM_Mo_blanks rfl (by decide) (sK253 H) rfl (by exact Nat.le_of_ble_eq_true rfl) (t_Mo_blanks d (N := N) (p := p) H q1 q4 hN (by omega)) (fun r1 h1 q1b => ?_)
    obtain ⟨rfl, g1, g2, g3⟩ := q1b
    have H1 := g1.St H
    have et : mT h1 = mT h := by unfold mT; rw [g1.2 280 (by decide)]
    have t1 : h1.2.1 253 27 = nI N := (g2 27 (by decide)).trans q1
    have fl : h1.2.1 253 29 = s.1 := (g2 29 (by decide)).trans q2
    refine je_aload0 (pc := 4) d12023_4 rfl ?_
    refine ju_geti (pc := 5) d12023_5 jF_12_214 rfl (sK253 H1) ?_
    refine ju_eqi (v := s.1) fl ?_
    refine je_ifne (pc := 8) 40 d12023_8 (by decide) (fun c8 => ?_) (fun c8 => absurd c8 f0)
    refine je_aload0 (pc := 40) d12023_40 rfl ?_
    refine ju_geti (pc := 41) d12023_41 jF_12_214 rfl (sK253 H1) ?_
    refine ju_eqi (v := s.1) fl ?_
    refine je_ifne (pc := 44) 62 d12023_44 (by decide) (fun c44 => ?_) (fun c44 => absurd c44 f0)
    refine je_iconst (pc := 62) (v := 0) d12023_62 rfl ?_
    refine ju_istore1 (pc := 63) (lv' := [some _, some _]) d12023_63 rfl rfl ?_
    refine je_aload0 (pc := 64) d12023_64 rfl ?_
    refine je_dup (pc := 65) d12023_65 rfl ?_
    refine ju_geti (pc := 66) d12023_66 jF_12_217 rfl (sK253 H1) ?_
    refine ju_eqi (v := nI (skB (mT h) N p)) g3 ?_
    refine je_iconst (pc := 69) (v := 1) d12023_69 rfl ?_
    refine je_iadd (pc := 70) d12023_70 ?_
    refine ju_eqi (v := nI ((skB (mT h) N p) + 1)) (nI_add (skB (mT h) N p) 1) ?_
    refine ju_puti (pc := 71) d12023_71 jF_12_217 rfl (sK253 H1) ?_
    refine je_iload1 (pc := 74) d12023_74 rfl ?_
    refine je_zret (pc := 75) d12023_75 rfl (Or.inl rfl) ?_
    have eg : goS (mT h) N s = (false, s) := by unfold goS; rw [if_pos f0]
    rw [eg]
    exact ⟨rfl, (g1.wI rfl), (fun j a1 a2 => by rw [wI_at, jx_up_ne _ _ a1]; exact g2 j a1), by rw [wI_at, jx_up_ne _ _ (by decide)]; exact fl, fun z => nomatch z⟩
  have f0 := Decidable.of_not_not f0
  obtain rfl := q5 f0
  have bn := sk_N (T := mT h) q3
  by_cases cb : N ≤ skB (mT h) N s.2
  · skip
    refine je_aload0 (pc := 0) d12023_0 rfl ?_
    refine ju_callv (pc := 1) (as := []) d12023_1 jL_12_237 jM_Mo_blanks rfl (by decide) (sK253 H) rfl (by exact Nat.le_of_ble_eq_true rfl) (t_Mo_blanks d (N := N) (p := s.2) H q1 q4 hN (by omega)) (fun r1 h1 q1b => ?_)
    obtain ⟨rfl, g1, g2, g3⟩ := q1b
    have H1 := g1.St H
    have et : mT h1 = mT h := by unfold mT; rw [g1.2 280 (by decide)]
    have t1 : h1.2.1 253 27 = nI N := (g2 27 (by decide)).trans q1
    have fl : h1.2.1 253 29 = s.1 := (g2 29 (by decide)).trans q2
    refine je_aload0 (pc := 4) d12023_4 rfl ?_
    refine ju_geti (pc := 5) d12023_5 jF_12_214 rfl (sK253 H1) ?_
    refine ju_eqi (v := 0) (fl.trans f0) ?_
    refine je_ifne (pc := 8) 40 d12023_8 (by decide) (fun c8 => absurd c8 (fun z => z rfl)) (fun c8 => ?_)
    refine je_aload0 (pc := 11) d12023_11 rfl ?_
    refine ju_geti (pc := 12) d12023_12 jF_12_217 rfl (sK253 H1) ?_
    refine ju_eqi (v := nI (skB (mT h) N s.2)) g3 ?_
    refine je_aload0 (pc := 15) d12023_15 rfl ?_
    refine ju_geti (pc := 16) d12023_16 jF_12_185 rfl (sK253 H1) ?_
    refine ju_eqi (v := nI N) t1 ?_
    refine jn_icge (pc := 19) (a := (skB (mT h) N s.2)) (b := (N)) 40 d12023_19 (by decide) (by omega) (by omega) (fun c19 => ?_) (fun c19 => by exfalso; omega)
    refine je_aload0 (pc := 40) d12023_40 rfl ?_
    refine ju_geti (pc := 41) d12023_41 jF_12_214 rfl (sK253 H1) ?_
    refine ju_eqi (v := 0) (fl.trans f0) ?_
    refine je_ifne (pc := 44) 62 d12023_44 (by decide) (fun c44 => absurd c44 (fun z => z rfl)) (fun c44 => ?_)
    refine je_aload0 (pc := 47) d12023_47 rfl ?_
    refine ju_geti (pc := 48) d12023_48 jF_12_217 rfl (sK253 H1) ?_
    refine ju_eqi (v := nI (skB (mT h) N s.2)) g3 ?_
    refine je_aload0 (pc := 51) d12023_51 rfl ?_
    refine ju_geti (pc := 52) d12023_52 jF_12_185 rfl (sK253 H1) ?_
    refine ju_eqi (v := nI N) t1 ?_
    refine jn_icge (pc := 55) (a := (skB (mT h) N s.2)) (b := (N)) 62 d12023_55 (by decide) (by omega) (by omega) (fun c55 => ?_) (fun c55 => by exfalso; omega)
    refine je_iconst (pc := 62) (v := 0) d12023_62 rfl ?_
    refine ju_istore1 (pc := 63) (lv' := [some _, some _]) d12023_63 rfl rfl ?_
    refine je_aload0 (pc := 64) d12023_64 rfl ?_
    refine je_dup (pc := 65) d12023_65 rfl ?_
    refine ju_geti (pc := 66) d12023_66 jF_12_217 rfl (sK253 H1) ?_
    refine ju_eqi (v := nI (skB (mT h) N s.2)) g3 ?_
    refine je_iconst (pc := 69) (v := 1) d12023_69 rfl ?_
    refine je_iadd (pc := 70) d12023_70 ?_
    refine ju_eqi (v := nI ((skB (mT h) N s.2) + 1)) (nI_add (skB (mT h) N s.2) 1) ?_
    refine ju_puti (pc := 71) d12023_71 jF_12_217 rfl (sK253 H1) ?_
    refine je_iload1 (pc := 74) d12023_74 rfl ?_
    refine je_zret (pc := 75) d12023_75 rfl (Or.inl rfl) ?_
    have eg : goS (mT h) N s = (false, s) := by unfold goS; rw [if_neg (fun z => z f0), if_pos cb]
    rw [eg]
    exact ⟨rfl, (g1.wI rfl), (fun j a1 a2 => by rw [wI_at, jx_up_ne _ _ a1]; exact g2 j a1), by rw [wI_at, jx_up_ne _ _ (by decide)]; exact fl, fun z => nomatch z⟩
  by_cases c59 : mT h (skB (mT h) N s.2) = 59
  · skip
    refine je_aload0 (pc := 0) d12023_0 rfl ?_
    refine ju_callv (pc := 1) (as := []) d12023_1 jL_12_237 jM_Mo_blanks rfl (by decide) (sK253 H) rfl (by exact Nat.le_of_ble_eq_true rfl) (t_Mo_blanks d (N := N) (p := s.2) H q1 q4 hN (by omega)) (fun r1 h1 q1b => ?_)
    obtain ⟨rfl, g1, g2, g3⟩ := q1b
    have H1 := g1.St H
    have et : mT h1 = mT h := by unfold mT; rw [g1.2 280 (by decide)]
    have t1 : h1.2.1 253 27 = nI N := (g2 27 (by decide)).trans q1
    have fl : h1.2.1 253 29 = s.1 := (g2 29 (by decide)).trans q2
    refine je_aload0 (pc := 4) d12023_4 rfl ?_
    refine ju_geti (pc := 5) d12023_5 jF_12_214 rfl (sK253 H1) ?_
    refine ju_eqi (v := 0) (fl.trans f0) ?_
    refine je_ifne (pc := 8) 40 d12023_8 (by decide) (fun c8 => absurd c8 (fun z => z rfl)) (fun c8 => ?_)
    refine je_aload0 (pc := 11) d12023_11 rfl ?_
    refine ju_geti (pc := 12) d12023_12 jF_12_217 rfl (sK253 H1) ?_
    refine ju_eqi (v := nI (skB (mT h) N s.2)) g3 ?_
    refine je_aload0 (pc := 15) d12023_15 rfl ?_
    refine ju_geti (pc := 16) d12023_16 jF_12_185 rfl (sK253 H1) ?_
    refine ju_eqi (v := nI N) t1 ?_
    refine jn_icge (pc := 19) (a := (skB (mT h) N s.2)) (b := (N)) 40 d12023_19 (by decide) (by omega) (by omega) (fun c19 => by exfalso; omega) (fun c19 => ?_)
    refine je_aload0 (pc := 22) d12023_22 rfl ?_
    refine ju_callv (pc := 23) (as := []) d12023_23 jL_12_220 jM_Mo_sign rfl (by decide) (sK253 H1) rfl (by exact Nat.le_of_ble_eq_true rfl) (t_Mo_sign (d + 1) (N := N) (p := skB (mT h) N s.2) H1 t1 g3 hN (by omega)) (fun r23 h23 q23 => ?_)
    obtain ⟨rfl, e23⟩ := q23
    obtain rfl := e23.symm
    refine je_bipush (pc := 26) (v := 59) d12023_26 rfl ?_
    refine je_iceq (pc := 28) 40 d12023_28 (by decide) (fun c28 => ?_) (fun c28 => absurd c28 (fun z => absurd (by unfold mSg; rw [if_pos (by omega), et]; exact c59) z))
    refine je_aload0 (pc := 40) d12023_40 rfl ?_
    refine ju_geti (pc := 41) d12023_41 jF_12_214 rfl (sK253 H1) ?_
    refine ju_eqi (v := 0) (fl.trans f0) ?_
    refine je_ifne (pc := 44) 62 d12023_44 (by decide) (fun c44 => absurd c44 (fun z => z rfl)) (fun c44 => ?_)
    refine je_aload0 (pc := 47) d12023_47 rfl ?_
    refine ju_geti (pc := 48) d12023_48 jF_12_217 rfl (sK253 H1) ?_
    refine ju_eqi (v := nI (skB (mT h) N s.2)) g3 ?_
    refine je_aload0 (pc := 51) d12023_51 rfl ?_
    refine ju_geti (pc := 52) d12023_52 jF_12_185 rfl (sK253 H1) ?_
    refine ju_eqi (v := nI N) t1 ?_
    refine jn_icge (pc := 55) (a := (skB (mT h) N s.2)) (b := (N)) 62 d12023_55 (by decide) (by omega) (by omega) (fun c55 => by exfalso; omega) (fun c55 => ?_)
    refine je_iconst (pc := 58) (v := 1) d12023_58 rfl ?_
    refine je_goto (pc := 59) 63 d12023_59 (by decide) ?_
    refine ju_istore1 (pc := 63) (lv' := [some _, some _]) d12023_63 rfl rfl ?_
    refine je_aload0 (pc := 64) d12023_64 rfl ?_
    refine je_dup (pc := 65) d12023_65 rfl ?_
    refine ju_geti (pc := 66) d12023_66 jF_12_217 rfl (sK253 H1) ?_
    refine ju_eqi (v := nI (skB (mT h) N s.2)) g3 ?_
    refine je_iconst (pc := 69) (v := 1) d12023_69 rfl ?_
    refine je_iadd (pc := 70) d12023_70 ?_
    refine ju_eqi (v := nI ((skB (mT h) N s.2) + 1)) (nI_add (skB (mT h) N s.2) 1) ?_
    refine ju_puti (pc := 71) d12023_71 jF_12_217 rfl (sK253 H1) ?_
    refine je_iload1 (pc := 74) d12023_74 rfl ?_
    refine je_zret (pc := 75) d12023_75 rfl (Or.inr rfl) ?_
    have eg : goS (mT h) N s = (true, (0, skB (mT h) N s.2 + 1)) := by unfold goS; rw [if_neg (fun z => z f0), if_neg cb, if_pos c59]
    rw [eg]
    exact ⟨rfl, (g1.wI rfl), (fun j a1 a2 => by rw [wI_at, jx_up_ne _ _ a1]; exact g2 j a1), by rw [wI_at, jx_up_ne _ _ (by decide)]; exact fl.trans f0, fun _ => ⟨by rw [wI_at, jx_up_ne _ _ (by decide)]; exact t1, by rw [wI_at, jx_up_ne _ _ (by decide)]; exact fl.trans f0, skB (mT h) N s.2 + 1, by omega, by rw [wI_at, jx_up_self], fun _ => rfl⟩⟩
  refine je_aload0 (pc := 0) d12023_0 rfl ?_
  refine ju_callv (pc := 1) (as := []) d12023_1 jL_12_237 jM_Mo_blanks rfl (by decide) (sK253 H) rfl (by exact Nat.le_of_ble_eq_true rfl) (t_Mo_blanks d (N := N) (p := s.2) H q1 q4 hN (by omega)) (fun r1 h1 q1b => ?_)
  obtain ⟨rfl, g1, g2, g3⟩ := q1b
  have H1 := g1.St H
  have et : mT h1 = mT h := by unfold mT; rw [g1.2 280 (by decide)]
  have t1 : h1.2.1 253 27 = nI N := (g2 27 (by decide)).trans q1
  have fl : h1.2.1 253 29 = s.1 := (g2 29 (by decide)).trans q2
  refine je_aload0 (pc := 4) d12023_4 rfl ?_
  refine ju_geti (pc := 5) d12023_5 jF_12_214 rfl (sK253 H1) ?_
  refine ju_eqi (v := 0) (fl.trans f0) ?_
  refine je_ifne (pc := 8) 40 d12023_8 (by decide) (fun c8 => absurd c8 (fun z => z rfl)) (fun c8 => ?_)
  refine je_aload0 (pc := 11) d12023_11 rfl ?_
  refine ju_geti (pc := 12) d12023_12 jF_12_217 rfl (sK253 H1) ?_
  refine ju_eqi (v := nI (skB (mT h) N s.2)) g3 ?_
  refine je_aload0 (pc := 15) d12023_15 rfl ?_
  refine ju_geti (pc := 16) d12023_16 jF_12_185 rfl (sK253 H1) ?_
  refine ju_eqi (v := nI N) t1 ?_
  refine jn_icge (pc := 19) (a := (skB (mT h) N s.2)) (b := (N)) 40 d12023_19 (by decide) (by omega) (by omega) (fun c19 => by exfalso; omega) (fun c19 => ?_)
  refine je_aload0 (pc := 22) d12023_22 rfl ?_
  refine ju_callv (pc := 23) (as := []) d12023_23 jL_12_220 jM_Mo_sign rfl (by decide) (sK253 H1) rfl (by exact Nat.le_of_ble_eq_true rfl) (t_Mo_sign (d + 1) (N := N) (p := skB (mT h) N s.2) H1 t1 g3 hN (by omega)) (fun r23 h23 q23 => ?_)
  obtain ⟨rfl, e23⟩ := q23
  obtain rfl := e23.symm
  refine je_bipush (pc := 26) (v := 59) d12023_26 rfl ?_
  refine je_iceq (pc := 28) 40 d12023_28 (by decide) (fun c28 => absurd c28 (fun z => c59 (by unfold mSg at z; rw [if_pos (by omega), et] at z; exact z))) (fun c28 => ?_)
  refine je_aload0 (pc := 31) d12023_31 rfl ?_
  refine je_iconst (pc := 32) (v := 0) d12023_32 rfl ?_
  refine je_aload0 (pc := 33) d12023_33 rfl ?_
  refine ju_geti (pc := 34) d12023_34 jF_12_217 rfl (sK253 H1) ?_
  refine ju_eqi (v := nI (skB (mT h) N s.2)) g3 ?_
  refine ju_callv (pc := 37) (as := [_, _]) d12023_37 jL_12_253 jM_Mo_fails rfl (by decide) (sK253 H1) rfl (by exact Nat.le_of_ble_eq_true rfl) (t_Mo_fails (d + 1) (q := skB (mT h) N s.2) (c := 0) H1 (by omega) (by decide)) (fun r37 h37 q37 => ?_)
  obtain ⟨rfl, eb⟩ := q37
  rw [fl, if_pos f0] at eb
  obtain rfl := eb.symm
  refine je_aload0 (pc := 40) d12023_40 rfl ?_
  refine ju_geti (pc := 41) d12023_41 jF_12_214 rfl (sK253 H1.wI) ?_
  refine ju_eqi (v := fltI (skB (mT h) N s.2) 0) (by rw [wI_at, jx_up_self]) ?_
  refine je_ifne (pc := 44) 62 d12023_44 (by decide) (fun c44 => ?_) (fun c44 => absurd c44 (flt_nz (by omega) (by decide)))
  refine je_iconst (pc := 62) (v := 0) d12023_62 rfl ?_
  refine ju_istore1 (pc := 63) (lv' := [some _, some _]) d12023_63 rfl rfl ?_
  refine je_aload0 (pc := 64) d12023_64 rfl ?_
  refine je_dup (pc := 65) d12023_65 rfl ?_
  refine ju_geti (pc := 66) d12023_66 jF_12_217 rfl (sK253 H1.wI) ?_
  refine ju_eqi (v := nI (skB (mT h) N s.2)) (by rw [wI_at, jx_up_ne _ _ (by decide)]; exact g3) ?_
  refine je_iconst (pc := 69) (v := 1) d12023_69 rfl ?_
  refine je_iadd (pc := 70) d12023_70 ?_
  refine ju_eqi (v := nI ((skB (mT h) N s.2) + 1)) (nI_add (skB (mT h) N s.2) 1) ?_
  refine ju_puti (pc := 71) d12023_71 jF_12_217 rfl (sK253 H1.wI) ?_
  refine je_iload1 (pc := 74) d12023_74 rfl ?_
  refine je_zret (pc := 75) d12023_75 rfl (Or.inl rfl) ?_
  have eg : goS (mT h) N s = (false, (fltI (skB (mT h) N s.2) 0, s.2)) := by unfold goS; rw [if_neg (fun z => z f0), if_neg cb, if_neg c59]
  rw [eg]
  exact ⟨rfl, (g1.wI rfl).wI rfl, (fun j a1 a2 => by rw [wI_at, jx_up_ne _ _ a1, wI_at, jx_up_ne _ _ a2]; exact g2 j a1), by rw [wI_at, jx_up_ne _ _ (by decide), wI_at, jx_up_self], fun z => nomatch z⟩
