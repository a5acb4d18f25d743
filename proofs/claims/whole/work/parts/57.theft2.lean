/-! thefts: the class finds; the model; theft -/
set_option maxHeartbeats 4000000 in
theorem t_Th_find (d : Nat) {bc bs : Nat} {h : jx_H} {s : Nat} {S : MS} (H : jx_St h) (hr : h.2.2.2 26 0 = some s) (hsA : sA s) (P : jx_Sp h s) (hS : rS h.2.1 s S) (hmi : S.1.1 ≤ 10) {lg : Nat} {ln lm ld : Nat → Int32} (h4 : h.2.1 26 4 = nI lg) (hlg : lg ≤ 10) (hl : ∀ k, k < lg → h.2.1 45 k = ln k ∧ h.2.1 46 k = lm k ∧ h.2.1 47 k = ld k) (wl : ∀ k, k < lg → (∃ x, x ≤ 30 ∧ ln k = nI x) ∧ (∃ m, m < S.1.1 ∧ lm k = nI m) ∧ ∃ e, e ≤ 99 ∧ ld k = nI e) (z : Int32) : jx_Tr (d + 5) bc bs 11001 [.ref 107, .ref 26, .int z] h (fun r h' => r = none ∧ fC (fun b => 107 ≤ b ∧ b ≤ 110) (jx_wR h 107 4 (some s)) h' ∧ fnd h' (ftB S z ln lm ld lg) (30 * S.1.1) ∧ (∀ m, m < S.1.1 → ∀ n, n < 31 → h'.2.1 108 (m * 31 + n) = untI S m n) ∧ h'.2.1 107 5 = z) := by
  refine jx_tr jM_Th_find rfl rfl (lv := [some (.ref 107), some (.ref 26), some (.int z), none, none]) rfl ?_
  refine je_aload0 (pc := 0) d11001_0 rfl ?_
  refine je_aload1 (pc := 1) d11001_1 rfl ?_
  refine ju_getr (pc := 2) (b := s) d11001_2 jF_11_31 rfl (sK26 H) hr ?_
  refine ju_putr (pc := 5) d11001_5 jF_11_27 rfl rfl (sK107 H) ?_
  have H0 : jx_St (jx_wR h 107 4 (some s)) := H.wR rfl
  have P0 : jx_Sp (jx_wR h 107 4 (some s)) s := P.rf rfl (fun b h1 h2 => wR_ne h 4 (some s) (fun z => by unfold sA at hsA; omega))
  have hs0 : (jx_wR h 107 4 (some s)).2.2.2 107 4 = some s := by rw [wR_at, jx_up_self]
  refine je_aload0 (pc := 8) d11001_8 rfl ?_
  refine je_iload2 (pc := 9) d11001_9 rfl ?_
  refine ju_puti (pc := 10) d11001_10 jF_11_34 rfl (sK107 H0) ?_
  refine je_aload0 (pc := 13) d11001_13 rfl ?_
  refine je_iconst (pc := 14) (v := 0) d11001_14 rfl ?_
  refine ju_puti (pc := 15) d11001_15 jF_11_38 rfl (sK107 H0.wI) ?_
  refine je_aload0 (pc := 18) d11001_18 rfl ?_
  refine ju_callv (pc := 19) (as := []) d11001_19 jL_11_41 jM_Th_fillUntouched rfl (by decide) (sK107 H0.wI.wI) rfl (by exact Nat.le_of_ble_eq_true rfl) (t_Th_fillUntouched d (S := S) H0.wI.wI hs0 P0.wI.wI (hS.of (fun b h1 h2 => (wI_ne _ _ _ (fun z => by unfold sA at hsA; omega)).trans (wI_ne _ _ _ (fun z => by unfold sA at hsA; omega)))) hsA hmi) (fun r19 h19 q19 => ?_)
  obtain ⟨rfl, f1, f2⟩ := q19
  have H1 := f1.St H0.wI.wI
  have P1 := f1.Sp P0.wI.wI
  have hs1 := f1.rr (show (jx_wI (jx_wI (jx_wR h 107 4 (some s)) 107 5 z) 107 6 0).2.2.2 107 4 = some s from hs0)
  have g0 : fC (fun b => b = 107 ∨ b = 108) (jx_wR h 107 4 (some s)) h19 := ((fC.rf.wI (by omega)).wI (by omega)).tr (f1.mo (fun b hb => by omega))
  have hS1 : rS h19.2.1 s S := hS.of (fun b h1 h2 => g0.2 b (fun z => by unfold sA at hsA; omega))
  have c6 : h19.2.1 107 6 = 0 := by rw [f1.2 107 (by omega), wI_at, jx_up_self]
  have c5 : h19.2.1 107 5 = z := by rw [f1.2 107 (by omega), wI_at, jx_up_ne _ _ (by decide), wI_at, jx_up_self]
  refine je_iconst (pc := 22) (v := 0) d11001_22 rfl ?_
  refine ju_istore3 (pc := 23) (lv' := [some _, some _, some _, some _, none]) d11001_23 rfl rfl ?_
  refine je_loop (σ := Option Value) (S.1.1) (fun k xx => [some (.ref 107), some (.ref 26), some (.int z), some (.int (nI k)), xx]) (fun k _ h' => fC (fun b => b = 107 ∨ b = 109 ∨ b = 110) h19 h' ∧ fnd h' (ftB S z ln lm ld lg) (30 * k) ∧ ∀ j, j ≠ 6 → h'.2.1 107 j = h19.2.1 107 j) (fun k xx h' hk e kk => ?_) (fun xx h' e => ?_) (0) none h19 (by omega) ⟨fC.rf, ⟨c6, fun i hi => absurd hi (Nat.not_lt_zero i)⟩, fun _ _ => rfl⟩
  · obtain ⟨e1, e2, e3⟩ := e
    have H2 := e1.St H1
    have P2 := e1.Sp P1
    have hs2 := e1.rr hs1
    have hS2 : rS h'.2.1 s S := hS1.of (fun b h1 h2 => e1.2 b (fun z => by unfold sA at hsA; omega))
    refine je_iload3 (pc := 24) d11001_24 rfl ?_
    refine je_aload0 (pc := 25) d11001_25 rfl ?_
    refine ju_getr (pc := 26) (b := s) d11001_26 jF_11_27 rfl (sK107 H2) hs2 ?_
    refine ju_geti (pc := 29) d11001_29 jF_11_44 rfl P2.1.1 ?_
    refine ju_eqi (v := nI S.1.1) hS2.1.1 ?_
    refine jn_icge (pc := 32) (a := (k)) (b := (S.1.1)) 109 d11001_32 (by decide) (by omega) (by omega) (fun c32 => by exfalso; omega) (fun c32 => ?_)
    refine th_in (a := k) (z := z) (lg := lg) (ln := ln) (lm := lm) (ld := ld) H2 hs2 P2 hS2 (fun m hm n hn => by rw [e1.2 108 (by omega)]; exact f2 m hm n hn) hmi ((e3 5 (by decide)).trans c5) (by rw [e1.2 26 (by omega), g0.2 26 (by omega)]; exact h4) hlg (fun k hk => by rw [e1.2 45 (by omega), e1.2 46 (by omega), e1.2 47 (by omega), g0.2 45 (by omega), g0.2 46 (by omega), g0.2 47 (by omega)]; exact hl k hk) wl hsA hk z _ e2 (fun h3' q1 q2 q3 => ?_)
    refine ju_incN (pc := 103) (v := nI ((k) + 1)) (lv' := [some _, some _, some _, some _, _]) d11001_103 rfl (nI_1 (k)) rfl ?_
    refine je_goto (pc := 106) 24 d11001_106 (by decide) ?_
    exact kk (some _) _ ⟨e1.tr q1, q2, fun j hj => (q3 j hj).trans (e3 j hj)⟩
  · obtain ⟨e1, e2, e3⟩ := e
    have H2 := e1.St H1
    have P2 := e1.Sp P1
    have hs2 := e1.rr hs1
    have hS2 : rS h'.2.1 s S := hS1.of (fun b h1 h2 => e1.2 b (fun z => by unfold sA at hsA; omega))
    refine je_iload3 (pc := 24) d11001_24 rfl ?_
    refine je_aload0 (pc := 25) d11001_25 rfl ?_
    refine ju_getr (pc := 26) (b := s) d11001_26 jF_11_27 rfl (sK107 H2) hs2 ?_
    refine ju_geti (pc := 29) d11001_29 jF_11_44 rfl P2.1.1 ?_
    refine ju_eqi (v := nI S.1.1) hS2.1.1 ?_
    refine jn_icge (pc := 32) (a := ((S.1.1))) (b := (S.1.1)) 109 d11001_32 (by decide) (by omega) (by omega) (fun c32 => ?_) (fun c32 => by exfalso; omega)
    refine je_ret (pc := 109) d11001_109 rfl ?_
    exact ⟨rfl, (g0.mo (fun b hb => by omega)).tr (e1.mo (fun b hb => by omega)), e2, fun m hm n hn => by rw [e1.2 108 (by omega)]; exact f2 m hm n hn, (e3 5 (by decide)).trans c5⟩
set_option maxHeartbeats 2000000 in
theorem t_Db_isTheftSize (d : Nat) {bc bs : Nat} {h : jx_H} {s : Nat} (H : jx_St h) (hr : h.2.2.2 26 0 = some s) (P : jx_Sp h s) (x : Int32) : jx_Tr (d + 2) bc bs 31 [.ref 1, .int x] h (fun r h' => r = some (.int (b2 (0 < h.2.1 s 0 ∧ ¬ x < 1 ∧ ¬ 99 < x))) ∧ h' = h) := by
  refine jx_tr jM_Db_isTheftSize rfl rfl (lv := [some (.ref 1), some (.int x)]) rfl ?_
  refine je_aload0 (pc := 0) d31_0 rfl ?_
  refine ju_callv (pc := 1) (as := []) d31_1 jL_0_169 jM_Db_hasStrip rfl (by decide) (sK1 H) rfl (by exact Nat.le_of_ble_eq_true rfl) (t_Db_hasStrip (d + 0) H hr P) (fun r1 h1 q1 => ?_)
  obtain ⟨rfl, e1⟩ := q1
  obtain rfl := e1.symm
  refine ju_tern1 (pc := 4) (V := b2 (0 < h.2.1 s 0 ∧ ¬ x < 1 ∧ ¬ 99 < x)) 23 ?_ (fun jn4 => ?_)
  · refine je_zret (pc := 23) d31_23 rfl (b2_01 _) ?_
    exact ⟨rfl, rfl⟩
  · refine jb_ifeq (pc := 4) 22 d31_4 (by decide) (fun c4 => ?_) (fun c4 => ?_)
    · refine je_iconst (pc := 22) (v := 0) d31_22 rfl ?_
      refine ju_eqi (v := b2 (0 < h.2.1 s 0 ∧ ¬ x < 1 ∧ ¬ 99 < x)) (b2_f (fun q => c4 q.1)).symm ?_
      exact jn4
    · refine je_iload1 (pc := 7) d31_7 rfl ?_
      refine je_iconst (pc := 8) (v := 1) d31_8 rfl ?_
      refine je_iclt (pc := 9) 22 d31_9 (by decide) (fun c9 => ?_) (fun c9 => ?_)
      · refine je_iconst (pc := 22) (v := 0) d31_22 rfl ?_
        refine ju_eqi (v := b2 (0 < h.2.1 s 0 ∧ ¬ x < 1 ∧ ¬ 99 < x)) (b2_f (fun q => q.2.1 c9)).symm ?_
        exact jn4
      · refine je_iload1 (pc := 12) d31_12 rfl ?_
        refine je_bipush (pc := 13) (v := 99) d31_13 rfl ?_
        refine je_icgt (pc := 15) 22 d31_15 (by decide) (fun c15 => ?_) (fun c15 => ?_)
        · refine je_iconst (pc := 22) (v := 0) d31_22 rfl ?_
          refine ju_eqi (v := b2 (0 < h.2.1 s 0 ∧ ¬ x < 1 ∧ ¬ 99 < x)) (b2_f (fun q => q.2.2 c15)).symm ?_
          exact jn4
        · refine je_iconst (pc := 18) (v := 1) d31_18 rfl ?_
          refine je_goto (pc := 19) 23 d31_19 (by decide) ?_
          refine ju_eqi (v := b2 (0 < h.2.1 s 0 ∧ ¬ x < 1 ∧ ¬ 99 < x)) (b2_t ⟨c4, c9, c15⟩).symm ?_
          exact jn4
set_option maxHeartbeats 2000000 in
theorem t_Db_theft_n (d : Nat) {bc bs : Nat} {h : jx_H} {s : Nat} (H : jx_St h) (hr : h.2.2.2 26 0 = some s) (P : jx_Sp h s) (x y : Int32) (G : ¬ ((0 < h.2.1 s 0 ∧ ¬ x < 1 ∧ ¬ 99 < x) ∧ ¬ y < 0 ∧ ¬ 2 < y)) : jx_Tr (d + 6) bc bs 30 [.ref 1, .int x, .int y] h (fun r h' => r = some (.int (-1)) ∧ h' = h) := by
  refine jx_tr jM_Db_theft rfl rfl (lv := [some (.ref 1), some (.int x), some (.int y)]) rfl ?_
  refine je_aload0 (pc := 0) d30_0 rfl ?_
  refine je_iload1 (pc := 1) d30_1 rfl ?_
  refine ju_callv (pc := 2) (as := [_]) d30_2 jL_0_255 jM_Db_isTheftSize rfl (by decide) (sK1 H) rfl (by exact Nat.le_of_ble_eq_true rfl) (t_Db_isTheftSize (d + 3) H hr P _) (fun r2 h2 q2 => ?_)
  obtain ⟨rfl, e2⟩ := q2
  obtain rfl := e2.symm
  refine jb_ifeq (pc := 5) 17 d30_5 (by decide) (fun c5 => ?_) (fun c5 => ?_)
  · refine je_iconst (pc := 17) (v := -1) d30_17 rfl ?_
    refine je_iret (pc := 18) d30_18 rfl ?_
    exact ⟨rfl, rfl⟩
  · refine je_iload2 (pc := 8) d30_8 rfl ?_
    refine je_iflt (pc := 9) 17 d30_9 (by decide) (fun c9 => ?_) (fun c9 => ?_)
    · refine je_iconst (pc := 17) (v := -1) d30_17 rfl ?_
      refine je_iret (pc := 18) d30_18 rfl ?_
      exact ⟨rfl, rfl⟩
    · refine je_iload2 (pc := 12) d30_12 rfl ?_
      refine je_iconst (pc := 13) (v := 2) d30_13 rfl ?_
      refine ju_icle (pc := 14) 19 d30_14 (by decide) (fun c14 => absurd c14 (fun q => G ⟨c5, c9, q⟩)) (fun c14 => ?_)
      refine je_iconst (pc := 17) (v := -1) d30_17 rfl ?_
      refine je_iret (pc := 18) d30_18 rfl ?_
      exact ⟨rfl, rfl⟩
set_option maxHeartbeats 2000000 in
theorem t_Db_theft (d : Nat) {bc bs : Nat} {h : jx_H} {s : Nat} {S : MS} (H : jx_St h) (hr : h.2.2.2 26 0 = some s) (hsA : sA s) (P : jx_Sp h s) (hS : rS h.2.1 s S) (h0 : 0 < S.1.1) (hmi : S.1.1 ≤ 10) {lg : Nat} {ln lm ld : Nat → Int32} (h4 : h.2.1 26 4 = nI lg) (hlg : lg ≤ 10) (hl : ∀ k, k < lg → h.2.1 45 k = ln k ∧ h.2.1 46 k = lm k ∧ h.2.1 47 k = ld k) (wl : ∀ k, k < lg → (∃ x, x ≤ 30 ∧ ln k = nI x) ∧ (∃ m, m < S.1.1 ∧ lm k = nI m) ∧ ∃ e, e ≤ 99 ∧ ld k = nI e) (z y : Int32) (hz : ¬ z < 1 ∧ ¬ 99 < z) (hy : ¬ y < 0 ∧ ¬ 2 < y) {i : Nat} (hi : ¬ fa_cnt (ftB S z ln lm ld lg) (30 * S.1.1) = 0 → i < 30 * S.1.1 ∧ ftB S z ln lm ld lg i = true ∧ fa_cnt (ftB S z ln lm ld lg) i = 0) : jx_Tr (d + 6) bc bs 30 [.ref 1, .int z, .int y] h (fun r h' => r = some (.int (if y = 0 then nI (fa_cnt (ftB S z ln lm ld lg) (30 * S.1.1)) else if fa_cnt (ftB S z ln lm ld lg) (30 * S.1.1) = 0 then -2 else if y = 1 then nI (i / 30) else nI (i % 30))) ∧ fC (fun b => 107 ≤ b ∧ b ≤ 110) (jx_wR h 107 4 (some s)) h') := by
  refine jx_tr jM_Db_theft rfl rfl (lv := [some (.ref 1), some (.int z), some (.int y)]) rfl ?_
  refine je_aload0 (pc := 0) d30_0 rfl ?_
  refine je_iload1 (pc := 1) d30_1 rfl ?_
  refine ju_callv (pc := 2) (as := [_]) d30_2 jL_0_255 jM_Db_isTheftSize rfl (by decide) (sK1 H) rfl (by exact Nat.le_of_ble_eq_true rfl) (t_Db_isTheftSize (d + 3) H hr P _) (fun r2 h2 q2 => ?_)
  obtain ⟨rfl, e2⟩ := q2
  obtain rfl := e2.symm
  refine jb_ifeq (pc := 5) 17 d30_5 (by decide) (fun c5 => absurd c5 (fun q => q ⟨by rw [hS.1.1]; exact nI_lt (a := 0) h0 (by omega), hz⟩)) (fun c5 => ?_)
  refine je_iload2 (pc := 8) d30_8 rfl ?_
  refine je_iflt (pc := 9) 17 d30_9 (by decide) (fun c9 => absurd c9 hy.1) (fun c9 => ?_)
  refine je_iload2 (pc := 12) d30_12 rfl ?_
  refine je_iconst (pc := 13) (v := 2) d30_13 rfl ?_
  refine ju_icle (pc := 14) 19 d30_14 (by decide) (fun c14 => ?_) (fun c14 => absurd c14 hy.2)
  refine je_aload0 (pc := 19) d30_19 rfl ?_
  refine ju_getr (pc := 20) (b := 107) d30_20 jF_0_79 rfl (sK1 H) (sR1_11 H) ?_
  refine je_aload0 (pc := 23) d30_23 rfl ?_
  refine ju_getr (pc := 24) (b := 26) d30_24 jF_0_41 rfl (sK1 H) (sR1_5 H) ?_
  refine je_iload1 (pc := 27) d30_27 rfl ?_
  refine ju_callv (pc := 28) (as := [_, _]) d30_28 jL_0_258 jM_Th_find rfl (by decide) (sK107 H) rfl (by exact Nat.le_of_ble_eq_true rfl) (t_Th_find (d + 0) (S := S) H hr hsA P hS hmi h4 hlg hl wl z) (fun r28 h28 q28 => ?_)
  obtain ⟨rfl, f1, f2, f3, f4⟩ := q28
  have H2 := f1.St (H.wR rfl)
  have cl := fa_cnt_le (ftB S z ln lm ld lg) (30 * S.1.1)
  refine je_iload2 (pc := 31) d30_31 rfl ?_
  refine je_ifne (pc := 32) 43 d30_32 (by decide) (fun c32 => ?_) (fun c32 => ?_)
  · refine je_aload0 (pc := 43) d30_43 rfl ?_
    refine ju_getr (pc := 44) (b := 107) d30_44 jF_0_79 rfl (sK1 H2) (sR1_11 H2) ?_
    refine ju_geti (pc := 47) d30_47 jF_0_262 rfl (sK107 H2) ?_
    refine ju_eqi (v := nI (fa_cnt (ftB S z ln lm ld lg) (30 * S.1.1))) f2.1 ?_
    refine jn_ifne (pc := 50) (a := (fa_cnt (ftB S z ln lm ld lg) (30 * S.1.1))) 56 d30_50 (by decide) (by omega) (fun c50 => ?_) (fun c50 => ?_)
    · obtain ⟨i1, i2, i3⟩ := hi c50
      have i4 := f2.2 i i1 i2
      rw [i3] at i4
      refine je_iload2 (pc := 56) d30_56 rfl ?_
      refine je_iconst (pc := 57) (v := 1) d30_57 rfl ?_
      refine je_icne (pc := 58) 73 d30_58 (by decide) (fun c58 => ?_) (fun c58 => ?_)
      · refine je_aload0 (pc := 73) d30_73 rfl ?_
        refine ju_getr (pc := 74) (b := 107) d30_74 jF_0_79 rfl (sK1 H2) (sR1_11 H2) ?_
        refine ju_getr (pc := 77) (b := 110) d30_77 jF_0_268 rfl (sK107 H2) (sR107_2 H2) ?_
        refine je_iconst (pc := 80) (v := 0) d30_80 rfl ?_
        refine ju_iald (pc := 81) (jn := 0) d30_81 (sK110 H2) (by first | assumption | exact jx_ok_dec (by decide)) (by decide) ?_
        refine ju_eqi (v := nI (i % 30)) i4.2 ?_
        refine je_iret (pc := 82) d30_82 rfl ?_
        exact ⟨by rw [if_neg c32, if_neg c50, if_neg c58], f1⟩
      · refine je_aload0 (pc := 61) d30_61 rfl ?_
        refine ju_getr (pc := 62) (b := 107) d30_62 jF_0_79 rfl (sK1 H2) (sR1_11 H2) ?_
        refine ju_getr (pc := 65) (b := 109) d30_65 jF_0_265 rfl (sK107 H2) (sR107_1 H2) ?_
        refine je_iconst (pc := 68) (v := 0) d30_68 rfl ?_
        refine ju_iald (pc := 69) (jn := 0) d30_69 (sK109 H2) (by first | assumption | exact jx_ok_dec (by decide)) (by decide) ?_
        refine ju_eqi (v := nI (i / 30)) i4.1 ?_
        refine je_goto (pc := 70) 82 d30_70 (by decide) ?_
        refine je_iret (pc := 82) d30_82 rfl ?_
        exact ⟨by rw [if_neg c32, if_neg c50, if_pos c58], f1⟩
    · refine je_bipush (pc := 53) (v := -2) d30_53 rfl ?_
      refine je_iret (pc := 55) d30_55 rfl ?_
      exact ⟨by rw [if_neg c32, if_pos c50], f1⟩
  · refine je_aload0 (pc := 35) d30_35 rfl ?_
    refine ju_getr (pc := 36) (b := 107) d30_36 jF_0_79 rfl (sK1 H2) (sR1_11 H2) ?_
    refine ju_geti (pc := 39) d30_39 jF_0_262 rfl (sK107 H2) ?_
    refine ju_eqi (v := nI (fa_cnt (ftB S z ln lm ld lg) (30 * S.1.1))) f2.1 ?_
    refine je_iret (pc := 42) d30_42 rfl ?_
    exact ⟨by rw [if_pos c32], f1⟩
/-! the model's course -/
def nxc (S : MS) (m : Nat) (c : Int32) (n : Nat) : Int32 := if 99 < (if tbk S m then c else c + warmF S (nI n)) then 99 else (if tbk S m then c else c + warmF S (nI n))
def ciF (S : MS) (z : Int32) (a b m : Nat) : Nat → Int32
  | 0 => S.2.2.2.1 m
  | n + 1 => nxc S m (if m = a ∧ n = b then ciF S z a b m n - z else ciF S z a b m n) n
def coF (S : MS) (z : Int32) (a b m n : Nat) : Int32 := if m = a ∧ n = b then ciF S z a b m n - z else ciF S z a b m n
theorem riI_bd {S : MS} (wS : wfS S) {e : Int32} (h : bdI e 0 99) (n : Nat) : bdI (riI S e n) 0 99 := by
  have hw := warmF_bd wS (nI n)
  have h1 := h.1
  have h2 := h.2
  have h3 := hw.1
  have h4 := hw.2
  have e1 := tI_add (x := e) (y := warmF S (nI n)) (by omega) (by omega) (by omega) (by omega)
  unfold riI bdI
  split
  · decide
  · rename_i c
    rw [fa_lt, e1, show (99 : Int32).toInt = 99 from rfl] at c
    rw [e1]
    omega
theorem untI_bd {S : MS} (wS : wfS S) {m : Nat} (hm : m < 10) : ∀ n, bdI (untI S m n) 0 99
  | 0 => (wS.2.2.2.2.2.2.2.1 m hm).2.1
  | n + 1 => by
    rw [untI]
    split
    · exact untI_bd wS hm n
    · exact riI_bd wS (untI_bd wS hm n) n
theorem nxc_u {S : MS} (wS : wfS S) {m : Nat} {c : Int32} (hc : bdI c 0 99) (n : Nat) : nxc S m c n = if tbk S m then c else riI S c n := by
  unfold nxc riI
  by_cases t : tbk S m
  · rw [if_pos t, if_pos t, if_neg]
    rw [fa_lt, show (99 : Int32).toInt = 99 from rfl]
    have := hc.2
    omega
  · rw [if_neg t, if_neg t]
theorem ci_u {S : MS} (wS : wfS S) {z : Int32} {a b m : Nat} (hm : m < 10) : ∀ {n : Nat}, (∀ i, i < n → ¬ (m = a ∧ i = b)) → ciF S z a b m n = untI S m n
  | 0, _ => rfl
  | n + 1, h => by rw [ciF, if_neg (h n (by omega)), ci_u wS hm (fun i hi => h i (by omega)), nxc_u wS (untI_bd wS hm n), untI]
theorem co_a {S : MS} {z : Int32} {a b : Nat} (nb : ¬ tbk S a) (hu : ciF S z a b a b = untI S a b) : ∀ k, coF S z a b a (b + k) = aftI S (untI S a b - z) b k
  | 0 => by unfold coF; rw [Nat.add_zero, if_pos ⟨rfl, rfl⟩, hu]; rfl
  | k + 1 => by
    unfold coF
    rw [if_neg (fun q => by omega)]
    show nxc S a (coF S z a b a (b + k)) (b + k) = _
    rw [co_a nb hu k, aftI]
    unfold nxc riI
    rw [if_neg nb]
theorem co_db {S : MS} (wS : wfS S) {z : Int32} {a b m n : Nat} (hm : m < 10) (nb : ¬ tbk S a) : coF S z a b m n = dbI S z a b m n := by
  unfold dbI
  by_cases c : ¬ m = a ∨ n < b
  · rw [if_pos c]
    unfold coF
    rw [if_neg (fun q => by omega)]
    exact ci_u wS hm (fun i hi q => by omega)
  · rw [if_neg c]
    have e : m = a := by omega
    subst e
    have := co_a (z := z) (b := b) nb (ci_u wS hm (fun i hi q => by omega)) (n - b)
    rw [show b + (n - b) = n by omega] at this
    exact this
set_option maxHeartbeats 4000000 in
theorem mo_lc {d bc bs m a b k : Nat} {h : jx_H} {Q : Option Value → jx_H → Prop} {z c : Int32} {S : MS} (H : jx_St h) (hS : mSt h.2.1 S) (hm : m < 10) (hk : k < 31) (x7 : Option Value) (hK : ∀ x7, jx_Ev (d + 2) bc bs 12101 11 [some (.ref 253), some (.int (nI m)), some (.int (nI a)), some (.int (nI b)), some (.int z), some (.int (nxc S m c k)), some (.int (nI (k + 1))), x7] [] (jx_wI h 299 (31 * m + k) c) Q) : jx_Ev (d + 2) bc bs 12101 65 [some (.ref 253), some (.int (nI m)), some (.int (nI a)), some (.int (nI b)), some (.int z), some (.int c), some (.int (nI k)), x7] [] h Q := by
  refine je_aload0 (pc := 65) d12101_65 rfl ?_
  refine ju_getr (pc := 66) (b := 299) d12101_66 jF_12_151 rfl (sK253 H) (sR253_60 H) ?_
  refine je_bipush (pc := 69) (v := 31) d12101_69 rfl ?_
  refine je_iload1 (pc := 71) d12101_71 rfl ?_
  refine je_imul (pc := 72) d12101_72 ?_
  refine ju_eqi (v := nI (31 * (m))) (pk_mul 31 (m)) ?_
  refine je_iload (pc := 73) d12101_73 rfl ?_
  refine je_iadd (pc := 75) d12101_75 ?_
  refine ju_eqi (v := nI ((31 * (m)) + (k))) (nI_add (31 * (m)) (k)) ?_
  refine je_iload (pc := 76) d12101_76 rfl ?_
  refine ju_iast (pc := 78) (jn := ((31 * (m)) + (k))) d12101_78 (sK299 H) (vp_in_nI (by omega) (by decide)) (nI_clamp (by omega)) ?_
  refine je_aload0 (pc := 79) d12101_79 rfl ?_
  refine ju_getr (pc := 80) (b := 269) d12101_80 jF_12_55 rfl (sK253 H.wI) (sR253_16 H.wI) ?_
  refine je_iconst (pc := 83) (v := 0) d12101_83 rfl ?_
  refine ju_iald (pc := 84) (jn := 0) d12101_84 (sK269 H.wI) (by first | assumption | exact jx_ok_dec (by decide)) (by decide) ?_
  refine ju_eqi (v := S.2.2.2.2.2.2.1) (by rw [wI_ne _ _ _ (by decide)]; exact hS.2.2.2.2.2) ?_
  refine je_iload1 (pc := 85) d12101_85 rfl ?_
  refine ju_calls (pc := 86) (as := [_, _]) d12101_86 jL_12_174 jM_Mo_has rfl rfl (by exact Nat.le_of_ble_eq_true rfl) (t_Mo_has (d + 0) _ _) (fun r86 h86 q86 => ?_)
  obtain ⟨rfl, e86⟩ := q86
  obtain rfl := e86.symm
  refine ju_tern1 (pc := 89) (V := (if tbk S m then c else c + warmF S (nI k))) 106 ?_ (fun jn89 => ?_)
  · refine ju_istore (pc := 106) (lv' := [some _, some _, some _, some _, some _, some _, some _, some _]) d12101_106 rfl rfl ?_
    refine je_iload (pc := 108) d12101_108 rfl ?_
    refine je_bipush (pc := 110) (v := 99) d12101_110 rfl ?_
    refine ju_tern2 (pc := 112) (V := nxc S m c k) 122 ?_ (fun jn112 => ?_)
    · refine ju_istore (pc := 122) (lv' := [some _, some _, some _, some _, some _, some _, some _, some _]) d12101_122 rfl rfl ?_
      refine ju_incN (pc := 124) (v := nI ((k) + 1)) (lv' := [some _, some _, some _, some _, some _, some _, some _, some _]) d12101_124 rfl (nI_1 (k)) rfl ?_
      refine je_goto (pc := 127) 11 d12101_127 (by decide) ?_
      exact hK _
    · refine ju_icle (pc := 112) 120 d12101_112 (by decide) (fun c112 => ?_) (fun c112 => ?_)
      · refine je_iload (pc := 120) d12101_120 rfl ?_
        refine ju_eqi (v := nxc S m c k) (by unfold nxc; rw [if_neg c112]) ?_
        exact jn112
      · refine je_bipush (pc := 115) (v := 99) d12101_115 rfl ?_
        refine je_goto (pc := 117) 122 d12101_117 (by decide) ?_
        refine ju_eqi (v := nxc S m c k) (by unfold nxc; rw [if_pos c112]) ?_
        exact jn112
  · refine jb_ifeq (pc := 89) 97 d12101_89 (by decide) (fun c89 => ?_) (fun c89 => ?_)
    · refine je_iload (pc := 97) d12101_97 rfl ?_
      refine je_aload0 (pc := 99) d12101_99 rfl ?_
      refine je_iload (pc := 100) d12101_100 rfl ?_
      refine ju_callv (pc := 102) (as := [_]) d12101_102 jL_12_403 jM_Mo_warmthOf rfl (by decide) (sK253 H.wI) rfl (by exact Nat.le_of_ble_eq_true rfl) (t_Mo_warmthOf (d + 0) H.wI _ (nI_pos (by omega))) (fun r102 h102 q102 => ?_)
      obtain ⟨rfl, e102⟩ := q102
      obtain rfl := e102.symm
      refine ju_eqi (v := warmF S (nI k)) (wmM (I := (jx_wI h 299 (31 * m + k) c).2.1) (hS.fr (fun b hb => wI_ne _ _ _ (by omega)) (fun j _ => by rw [wI_ne _ _ _ (by decide)])) (nI_pos (by omega))) ?_
      refine je_iadd (pc := 105) d12101_105 ?_
      refine ju_eqi (v := (if tbk S m then c else c + warmF S (nI k))) (by rw [if_neg c89]) ?_
      exact jn89
    · refine je_iload (pc := 92) d12101_92 rfl ?_
      refine je_goto (pc := 94) 106 d12101_94 (by decide) ?_
      refine ju_eqi (v := (if tbk S m then c else c + warmF S (nI k))) (by rw [if_pos c89]) ?_
      exact jn89
set_option maxHeartbeats 4000000 in
theorem t_Mo_laysCourse (d : Nat) {bc bs : Nat} {h : jx_H} {S : MS} (H : jx_St h) (hS : mSt h.2.1 S) {m a b : Nat} {z : Int32} (hm : m < 10) (ha : a < 10) (hb : b < 30) : jx_Tr (d + 2) bc bs 12101 [.ref 253, .int (nI m), .int (nI a), .int (nI b), .int z] h (fun r h' => r = none ∧ fC (fun b => b = 299 ∨ b = 253) h h' ∧ (∀ j, j ≠ 61 → h'.2.1 253 j = h.2.1 253 j) ∧ h'.2.1 253 61 = (if m = a then b2 (¬ ciF S z a b m b < z ∧ ¬ tbk S m) else h.2.1 253 61) ∧ (∀ n, n < 31 → h'.2.1 299 (31 * m + n) = coF S z a b m n) ∧ ∀ i, i < 31 * m → h'.2.1 299 i = h.2.1 299 i) := by
  refine jx_tr jM_Mo_laysCourse rfl rfl (lv := [some (.ref 253), some (.int (nI m)), some (.int (nI a)), some (.int (nI b)), some (.int z), none, none, none]) rfl ?_
  refine je_aload0 (pc := 0) d12101_0 rfl ?_
  refine ju_getr (pc := 1) (b := 268) d12101_1 jF_12_52 rfl (sK253 H) (sR253_15 H) ?_
  refine je_iload1 (pc := 4) d12101_4 rfl ?_
  refine ju_iald (pc := 5) (jn := (m)) d12101_5 (sK268 H) (vp_in_nI (by omega) (by decide)) (nI_clamp (by omega)) ?_
  refine ju_eqi (v := ciF S z a b m 0) (hS.2.2.2.2.1 m hm) ?_
  refine ju_istore (pc := 6) (lv' := [some _, some _, some _, some _, some _, some _, none, none]) d12101_6 rfl rfl ?_
  refine je_iconst (pc := 8) (v := 0) d12101_8 rfl ?_
  refine ju_istore (pc := 9) (lv' := [some _, some _, some _, some _, some _, some _, some _, none]) d12101_9 rfl rfl ?_
  refine je_loop (σ := Option Value) (31) (fun k xx => [some (.ref 253), some (.int (nI m)), some (.int (nI a)), some (.int (nI b)), some (.int z), some (.int (ciF S z a b m k)), some (.int (nI k)), xx]) (fun k _ h' => fC (fun b => b = 299 ∨ b = 253) h h' ∧ (∀ j, j ≠ 61 → h'.2.1 253 j = h.2.1 253 j) ∧ h'.2.1 253 61 = (if m = a ∧ b < k then b2 (¬ ciF S z a b m b < z ∧ ¬ tbk S m) else h.2.1 253 61) ∧ (∀ n, n < k → h'.2.1 299 (31 * m + n) = coF S z a b m n) ∧ ∀ i, i < 31 * m → h'.2.1 299 i = h.2.1 299 i) (fun k xx h' hk e kk => ?_) (fun xx h' e => ?_) (0) none h (by omega) ⟨fC.rf, fun _ _ => rfl, by rw [if_neg (fun q => by omega)], fun n hn => absurd hn (Nat.not_lt_zero n), fun _ _ => rfl⟩
  · obtain ⟨e1, e2, e3, e4, e5⟩ := e
    have H1 := e1.St H
    have hS1 : mSt h'.2.1 S := hS.fr (fun b hb => e1.2 b (by omega)) (fun j hj => by rw [e1.2 254 (by omega)])
    refine je_iload (pc := 11) d12101_11 rfl ?_
    refine je_bipush (pc := 13) (v := 30) d12101_13 rfl ?_
    refine jn_icgt (pc := 15) (a := (k)) (b := 30) 130 d12101_15 (by decide) (by omega) (by omega) (fun c15 => by exfalso; omega) (fun c15 => ?_)
    refine je_iload1 (pc := 18) d12101_18 rfl ?_
    refine je_iload2 (pc := 19) d12101_19 rfl ?_
    refine jn_icne (pc := 20) (a := (m)) (b := (a)) 65 d12101_20 (by decide) (by omega) (by omega) (fun c20 => ?_) (fun c20 => ?_)
    · refine mo_lc (S := S) (c := ciF S z a b m k) H1 hS1 (by omega) (by omega) _ (fun x7 => ?_)
      have ec : nxc S m (ciF S z a b m k) k = ciF S z a b m (k + 1) := by rw [ciF]; rw [if_neg (fun q => c20 q.1)]
      rw [ec]
      refine kk x7 _ ⟨e1.wI (by omega), fun j hj => ?_, ?_, fun n hn => ?_, fun i hi => ?_⟩
      · rw [wI_ne _ _ _ (by decide)]; exact e2 j hj
      · rw [wI_ne _ _ _ (by decide)]; rw [e3, if_neg (fun q => c20 q.1), if_neg (fun q => c20 q.1)]
      · rw [wI_at]
        by_cases c : n = k
        · subst c; rw [jx_up_self]; unfold coF; rw [if_neg (fun q => c20 q.1)]
        · rw [jx_up_ne _ _ (by omega)]; exact e4 n (by omega)
      · rw [wI_at, jx_up_ne _ _ (by omega)]; exact e5 i hi
    · refine je_iload (pc := 23) d12101_23 rfl ?_
      refine je_iload3 (pc := 25) d12101_25 rfl ?_
      refine jn_icne (pc := 26) (a := (k)) (b := (b)) 65 d12101_26 (by decide) (by omega) (by omega) (fun c26 => ?_) (fun c26 => ?_)
      · refine mo_lc (S := S) (c := ciF S z a b m k) H1 hS1 (by omega) (by omega) _ (fun x7 => ?_)
        have ec : nxc S m (ciF S z a b m k) k = ciF S z a b m (k + 1) := by rw [ciF]; rw [if_neg (fun q => c26 q.2)]
        rw [ec]
        refine kk x7 _ ⟨e1.wI (by omega), fun j hj => ?_, ?_, fun n hn => ?_, fun i hi => ?_⟩
        · rw [wI_ne _ _ _ (by decide)]; exact e2 j hj
        · rw [wI_ne _ _ _ (by decide)]; rw [e3]; by_cases q : m = a ∧ b < k
          · rw [if_pos q, if_pos ⟨q.1, by omega⟩]
          · rw [if_neg q, if_neg (fun y => q ⟨y.1, by omega⟩)]
        · rw [wI_at]
          by_cases c : n = k
          · subst c; rw [jx_up_self]; unfold coF; rw [if_neg (fun q => c26 q.2)]
          · rw [jx_up_ne _ _ (by omega)]; exact e4 n (by omega)
        · rw [wI_at, jx_up_ne _ _ (by omega)]; exact e5 i hi
      · refine je_aload0 (pc := 29) d12101_29 rfl ?_
        refine je_iload (pc := 30) d12101_30 rfl ?_
        refine je_iload (pc := 32) d12101_32 rfl ?_
        refine ju_tern2 (pc := 34) (V := b2 (¬ ciF S z a b m k < z ∧ ¬ tbk S m)) 55 ?_ (fun jn34 => ?_)
        · refine ju_putz (pc := 55) d12101_55 jF_12_533 rfl (b2_01 _) (sK253 H1) ?_
          refine je_iload (pc := 58) d12101_58 rfl ?_
          refine je_iload (pc := 60) d12101_60 rfl ?_
          refine je_isub (pc := 62) d12101_62 ?_
          refine ju_istore (pc := 63) (lv' := [some _, some _, some _, some _, some _, some _, some _, _]) d12101_63 rfl rfl ?_
          refine mo_lc (S := S) (c := ciF S z a b m k - z) H1.wI (hS1.fr (fun b hb => wI_ne _ _ _ (by omega)) (fun j _ => by rw [wI_ne _ _ _ (by decide)])) (by omega) (by omega) _ (fun x7 => ?_)
          have ec : nxc S m (ciF S z a b m k - z) k = ciF S z a b m (k + 1) := by rw [ciF]; rw [if_pos ⟨c20, c26⟩]
          rw [ec]
          refine kk x7 _ ⟨(e1.wI (by omega)).wI (by omega), fun j hj => ?_, ?_, fun n hn => ?_, fun i hi => ?_⟩
          · rw [wI_ne _ _ _ (by decide), wI_at, jx_up_ne _ _ hj]; exact e2 j hj
          · rw [wI_ne _ _ _ (by decide)]; rw [wI_at, jx_up_self, if_pos ⟨c20, by omega⟩, c26]
          · rw [wI_at]
            by_cases c : n = k
            · subst c; rw [jx_up_self]; unfold coF; rw [if_pos ⟨c20, c26⟩]
            · rw [jx_up_ne _ _ (by omega), wI_ne _ _ _ (by decide)]; exact e4 n (by omega)
          · rw [wI_at, jx_up_ne _ _ (by omega), wI_ne _ _ _ (by decide)]; exact e5 i hi
        · refine je_iclt (pc := 34) 54 d12101_34 (by decide) (fun c34 => ?_) (fun c34 => ?_)
          · refine je_iconst (pc := 54) (v := 0) d12101_54 rfl ?_
            refine ju_eqi (v := b2 (¬ ciF S z a b m k < z ∧ ¬ tbk S m)) (b2_f (fun q => q.1 c34)).symm ?_
            exact jn34
          · refine je_aload0 (pc := 37) d12101_37 rfl ?_
            refine ju_getr (pc := 38) (b := 269) d12101_38 jF_12_55 rfl (sK253 H1) (sR253_16 H1) ?_
            refine je_iconst (pc := 41) (v := 0) d12101_41 rfl ?_
            refine ju_iald (pc := 42) (jn := 0) d12101_42 (sK269 H1) (by first | assumption | exact jx_ok_dec (by decide)) (by decide) ?_
            refine ju_eqi (v := S.2.2.2.2.2.2.1) hS1.2.2.2.2.2 ?_
            refine je_iload1 (pc := 43) d12101_43 rfl ?_
            refine ju_calls (pc := 44) (as := [_, _]) d12101_44 jL_12_174 jM_Mo_has rfl rfl (by exact Nat.le_of_ble_eq_true rfl) (t_Mo_has (d + 0) _ _) (fun r44 h44 q44 => ?_)
            obtain ⟨rfl, e44⟩ := q44
            obtain rfl := e44.symm
            refine jb_ifne (pc := 47) 54 d12101_47 (by decide) (fun c47 => ?_) (fun c47 => ?_)
            · refine je_iconst (pc := 54) (v := 0) d12101_54 rfl ?_
              refine ju_eqi (v := b2 (¬ ciF S z a b m k < z ∧ ¬ tbk S m)) (b2_f (fun q => q.2 c47)).symm ?_
              exact jn34
            · refine je_iconst (pc := 50) (v := 1) d12101_50 rfl ?_
              refine je_goto (pc := 51) 55 d12101_51 (by decide) ?_
              refine ju_eqi (v := b2 (¬ ciF S z a b m k < z ∧ ¬ tbk S m)) (b2_t ⟨c34, c47⟩).symm ?_
              exact jn34
  · obtain ⟨e1, e2, e3, e4, e5⟩ := e
    have H1 := e1.St H
    have hS1 : mSt h'.2.1 S := hS.fr (fun b hb => e1.2 b (by omega)) (fun j hj => by rw [e1.2 254 (by omega)])
    refine je_iload (pc := 11) d12101_11 rfl ?_
    refine je_bipush (pc := 13) (v := 30) d12101_13 rfl ?_
    refine jn_icgt (pc := 15) (a := ((31))) (b := 30) 130 d12101_15 (by decide) (by omega) (by omega) (fun c15 => ?_) (fun c15 => by exfalso; omega)
    refine je_ret (pc := 130) d12101_130 rfl ?_
    refine ⟨rfl, e1, e2, ?_, e4, e5⟩
    rw [e3]
    by_cases q : m = a
    · rw [if_pos q, if_pos ⟨q, by omega⟩]
    · rw [if_neg q, if_neg (fun y => q y.1)]
theorem ftB_2 {S : MS} {z : Int32} {ln lm ld : Nat → Int32} {lg a b : Nat} (hb : b < 30) : b2 (posP S z a b ∧ agF S z ln lm ld a b lg = true) = b2 (ftB S z ln lm ld lg (30 * a + b) = true) := b2_c (by
  unfold ftB
  rw [show (30 * a + b) / 30 = a by omega, show (30 * a + b) % 30 = b by omega, Bool.and_eq_true, decide_eq_true_eq])
set_option maxHeartbeats 4000000 in
theorem mo_df {d bc bs a b : Nat} {h : jx_H} {Q : Option Value → jx_H → Prop} {z : Int32} {S : MS} (H : jx_St h) (hS : mSt h.2.1 S) (wS : wfS S) (hmi : S.1.1 ≤ 10) {lg : Nat} {ln lm ld : Nat → Int32} (h6 : h.2.1 254 6 = nI lg) (hlg : lg ≤ 10) (hl : ∀ k, k < lg → h.2.1 265 k = ln k ∧ h.2.1 266 k = lm k ∧ h.2.1 267 k = ld k) (wl : ∀ k, k < lg → (∃ x, x ≤ 30 ∧ ln k = nI x) ∧ (∃ m, m < S.1.1 ∧ lm k = nI m) ∧ ∃ e, e ≤ 99 ∧ ld k = nI e) (hb : b < 30) (hc : ∀ m, m < S.1.1 → ∀ n, n < 31 → h.2.1 299 (31 * m + n) = coF S z a b m n) (x5 : Option Value) (hQ : Q (some (.int (b2 (ftB S z ln lm ld lg (30 * a + b) = true)))) h) : jx_Ev (d + 3) bc bs 12100 40 [some (.ref 253), some (.int (nI a)), some (.int (nI b)), some (.int z), some (.int (b2 (posP S z a b ∧ agF S z ln lm ld a b 0 = true))), x5] [] h Q := by
  refine je_iconst (pc := 40) (v := 0) d12100_40 rfl ?_
  refine ju_istore (pc := 41) (lv' := [some _, some _, some _, some _, some _, some _]) d12100_41 rfl rfl ?_
  refine je_loop (σ := Unit) (lg) (fun k xx => [some (.ref 253), some (.int (nI a)), some (.int (nI b)), some (.int z), some (.int (b2 (posP S z a b ∧ agF S z ln lm ld a b k = true))), some (.int (nI k))]) (fun _ _ h' => h' = h) (fun k xx h' hk e kk => ?_) (fun xx h' e => ?_) (0) () h (by omega) rfl
  · obtain rfl := e.symm
    obtain ⟨⟨x, hx, ex⟩, ⟨m, hm, em⟩, -⟩ := wl k hk
    obtain ⟨l1, l2, l3⟩ := hl k hk
    have ae : agF S z ln lm ld a b (k + 1) = (agF S z ln lm ld a b k && decide (dbI S z a b m x = ld k)) := by rw [agF, em, ex, nI_clamp (by omega), nI_clamp (by omega)]
    refine je_iload (pc := 43) d12100_43 rfl ?_
    refine je_aload0 (pc := 45) d12100_45 rfl ?_
    refine ju_getr (pc := 46) (b := 254) d12100_46 jF_12_9 rfl (sK253 H) (sR253_1 H) ?_
    refine je_bipush (pc := 49) (v := 6) d12100_49 rfl ?_
    refine ju_iald (pc := 51) (jn := 6) d12100_51 (sK254 H) (by first | assumption | exact jx_ok_dec (by decide)) (by decide) ?_
    refine ju_eqi (v := nI lg) h6 ?_
    refine jn_icge (pc := 52) (a := (k)) (b := (lg)) 106 d12100_52 (by decide) (by omega) (by omega) (fun c52 => by exfalso; omega) (fun c52 => ?_)
    refine je_iload (pc := 55) d12100_55 rfl ?_
    refine ju_tern1 (pc := 57) (V := b2 (posP S z a b ∧ agF S z ln lm ld a b (k + 1) = true)) 98 ?_ (fun jn57 => ?_)
    · refine ju_istore (pc := 98) (lv' := [some _, some _, some _, some _, some _, some _]) d12100_98 rfl rfl ?_
      refine ju_incN (pc := 100) (v := nI ((k) + 1)) (lv' := [some _, some _, some _, some _, some _, some _]) d12100_100 rfl (nI_1 (k)) rfl ?_
      refine je_goto (pc := 103) 43 d12100_103 (by decide) ?_
      exact kk () _ rfl
    · refine jb_ifeq (pc := 57) 97 d12100_57 (by decide) (fun c57 => ?_) (fun c57 => ?_)
      · refine je_iconst (pc := 97) (v := 0) d12100_97 rfl ?_
        refine ju_eqi (v := b2 (posP S z a b ∧ agF S z ln lm ld a b (k + 1) = true)) (b2_f (fun q => c57 ⟨q.1, by have := q.2; rw [ae, Bool.and_eq_true] at this; exact this.1⟩)).symm ?_
        exact jn57
      · refine je_aload0 (pc := 60) d12100_60 rfl ?_
        refine ju_getr (pc := 61) (b := 299) d12100_61 jF_12_151 rfl (sK253 H) (sR253_60 H) ?_
        refine je_bipush (pc := 64) (v := 31) d12100_64 rfl ?_
        refine je_aload0 (pc := 66) d12100_66 rfl ?_
        refine ju_getr (pc := 67) (b := 266) d12100_67 jF_12_46 rfl (sK253 H) (sR253_13 H) ?_
        refine je_iload (pc := 70) d12100_70 rfl ?_
        refine ju_iald (pc := 72) (jn := (k)) d12100_72 (sK266 H) (vp_in_nI (by omega) (by decide)) (nI_clamp (by omega)) ?_
        refine ju_eqi (v := nI m) (l2.trans em) ?_
        refine je_imul (pc := 73) d12100_73 ?_
        refine ju_eqi (v := nI (31 * (m))) (pk_mul 31 (m)) ?_
        refine je_aload0 (pc := 74) d12100_74 rfl ?_
        refine ju_getr (pc := 75) (b := 265) d12100_75 jF_12_43 rfl (sK253 H) (sR253_12 H) ?_
        refine je_iload (pc := 78) d12100_78 rfl ?_
        refine ju_iald (pc := 80) (jn := (k)) d12100_80 (sK265 H) (vp_in_nI (by omega) (by decide)) (nI_clamp (by omega)) ?_
        refine ju_eqi (v := nI x) (l1.trans ex) ?_
        refine je_iadd (pc := 81) d12100_81 ?_
        refine ju_eqi (v := nI ((31 * (m)) + (x))) (nI_add (31 * (m)) (x)) ?_
        refine ju_iald (pc := 82) (jn := ((31 * (m)) + (x))) d12100_82 (sK299 H) (vp_in_nI (by omega) (by decide)) (nI_clamp (by omega)) ?_
        refine ju_eqi (v := dbI S z a b m x) ((hc m hm x (by omega)).trans (co_db wS (by omega) c57.1.1)) ?_
        refine je_aload0 (pc := 83) d12100_83 rfl ?_
        refine ju_getr (pc := 84) (b := 267) d12100_84 jF_12_49 rfl (sK253 H) (sR253_14 H) ?_
        refine je_iload (pc := 87) d12100_87 rfl ?_
        refine ju_iald (pc := 89) (jn := (k)) d12100_89 (sK267 H) (vp_in_nI (by omega) (by decide)) (nI_clamp (by omega)) ?_
        refine ju_eqi (v := ld k) l3 ?_
        refine je_icne (pc := 90) 97 d12100_90 (by decide) (fun c90 => ?_) (fun c90 => ?_)
        · refine je_iconst (pc := 97) (v := 0) d12100_97 rfl ?_
          refine ju_eqi (v := b2 (posP S z a b ∧ agF S z ln lm ld a b (k + 1) = true)) (b2_f (fun q => c90 (by have := q.2; rw [ae, Bool.and_eq_true, decide_eq_true_eq] at this; exact this.2))).symm ?_
          exact jn57
        · refine je_iconst (pc := 93) (v := 1) d12100_93 rfl ?_
          refine je_goto (pc := 94) 98 d12100_94 (by decide) ?_
          refine ju_eqi (v := b2 (posP S z a b ∧ agF S z ln lm ld a b (k + 1) = true)) (b2_t ⟨c57.1, by rw [ae, c57.2, decide_eq_true c90]; rfl⟩).symm ?_
          exact jn57
  · obtain rfl := e.symm
    refine je_iload (pc := 43) d12100_43 rfl ?_
    refine je_aload0 (pc := 45) d12100_45 rfl ?_
    refine ju_getr (pc := 46) (b := 254) d12100_46 jF_12_9 rfl (sK253 H) (sR253_1 H) ?_
    refine je_bipush (pc := 49) (v := 6) d12100_49 rfl ?_
    refine ju_iald (pc := 51) (jn := 6) d12100_51 (sK254 H) (by first | assumption | exact jx_ok_dec (by decide)) (by decide) ?_
    refine ju_eqi (v := nI lg) h6 ?_
    refine jn_icge (pc := 52) (a := ((lg))) (b := (lg)) 106 d12100_52 (by decide) (by omega) (by omega) (fun c52 => ?_) (fun c52 => by exfalso; omega)
    refine je_iload (pc := 106) d12100_106 rfl ?_
    refine je_zret (pc := 108) d12100_108 rfl (b2_01 _) ?_
    rw [ftB_2 hb]
    exact hQ
set_option maxHeartbeats 4000000 in
theorem t_Mo_doesFit (d : Nat) {bc bs : Nat} {h : jx_H} {S : MS} (H : jx_St h) (hS : mSt h.2.1 S) (wS : wfS S) (hmi : S.1.1 ≤ 10) {lg : Nat} {ln lm ld : Nat → Int32} (h6 : h.2.1 254 6 = nI lg) (hlg : lg ≤ 10) (hl : ∀ k, k < lg → h.2.1 265 k = ln k ∧ h.2.1 266 k = lm k ∧ h.2.1 267 k = ld k) (wl : ∀ k, k < lg → (∃ x, x ≤ 30 ∧ ln k = nI x) ∧ (∃ m, m < S.1.1 ∧ lm k = nI m) ∧ ∃ e, e ≤ 99 ∧ ld k = nI e) {a b : Nat} {z : Int32} (ha : a < S.1.1) (hb : b < 30) : jx_Tr (d + 3) bc bs 12100 [.ref 253, .int (nI a), .int (nI b), .int z] h (fun r h' => r = some (.int (b2 (ftB S z ln lm ld lg (30 * a + b) = true))) ∧ fC (fun b => b = 299 ∨ b = 253) h h' ∧ (∀ j, j ≠ 61 → h'.2.1 253 j = h.2.1 253 j) ∧ ∀ m, m < S.1.1 → ∀ n, n < 31 → h'.2.1 299 (31 * m + n) = coF S z a b m n) := by
  refine jx_tr jM_Mo_doesFit rfl rfl (lv := [some (.ref 253), some (.int (nI a)), some (.int (nI b)), some (.int z), none, none]) rfl ?_
  refine je_aload0 (pc := 0) d12100_0 rfl ?_
  refine je_iconst (pc := 1) (v := 0) d12100_1 rfl ?_
  refine ju_putz (pc := 2) d12100_2 jF_12_533 rfl (by decide) (sK253 H) ?_
  refine je_iconst (pc := 5) (v := 0) d12100_5 rfl ?_
  refine ju_istore (pc := 6) (lv' := [some _, some _, some _, some _, some _, none]) d12100_6 rfl rfl ?_
  refine je_loop (σ := Unit) (S.1.1) (fun k xx => [some (.ref 253), some (.int (nI a)), some (.int (nI b)), some (.int z), some (.int (nI k)), none]) (fun k _ h' => fC (fun b => b = 299 ∨ b = 253) h h' ∧ (∀ j, j ≠ 61 → h'.2.1 253 j = h.2.1 253 j) ∧ h'.2.1 253 61 = (if a < k then b2 (¬ ciF S z a b a b < z ∧ ¬ tbk S a) else 0) ∧ ∀ m, m < k → ∀ n, n < 31 → h'.2.1 299 (31 * m + n) = coF S z a b m n) (fun k xx h' hk e kk => ?_) (fun xx h' e => ?_) (0) () _ (by omega) ⟨fC.rf.wI (by omega), fun j hj => by rw [wI_at, jx_up_ne _ _ hj], by rw [wI_at, jx_up_self, if_neg (Nat.not_lt_zero a)], fun m hm => absurd hm (Nat.not_lt_zero m)⟩
  · obtain ⟨e1, e2, e3, e4⟩ := e
    have H1 := e1.St H
    have hS1 : mSt h'.2.1 S := hS.fr (fun b hb => e1.2 b (by omega)) (fun j hj => by rw [e1.2 254 (by omega)])
    refine je_iload (pc := 8) d12100_8 rfl ?_
    refine je_aload0 (pc := 10) d12100_10 rfl ?_
    refine ju_getr (pc := 11) (b := 254) d12100_11 jF_12_9 rfl (sK253 H1) (sR253_1 H1) ?_
    refine je_iconst (pc := 14) (v := 0) d12100_14 rfl ?_
    refine ju_iald (pc := 15) (jn := 0) d12100_15 (sK254 H1) (by first | assumption | exact jx_ok_dec (by decide)) (by decide) ?_
    refine ju_eqi (v := nI S.1.1) hS1.1.1 ?_
    refine jn_icge (pc := 16) (a := (k)) (b := (S.1.1)) 34 d12100_16 (by decide) (by omega) (by omega) (fun c16 => by exfalso; omega) (fun c16 => ?_)
    refine je_aload0 (pc := 19) d12100_19 rfl ?_
    refine je_iload (pc := 20) d12100_20 rfl ?_
    refine je_iload1 (pc := 22) d12100_22 rfl ?_
    refine je_iload2 (pc := 23) d12100_23 rfl ?_
    refine je_iload3 (pc := 24) d12100_24 rfl ?_
    refine ju_callv (pc := 25) (as := [_, _, _, _]) d12100_25 jL_12_536 jM_Mo_laysCourse rfl (by decide) (sK253 H1) rfl (by exact Nat.le_of_ble_eq_true rfl) (t_Mo_laysCourse d (S := S) (m := k) (a := a) (b := b) (z := z) H1 hS1 (by omega) (by omega) hb) (fun r25 h25 q25 => ?_)
    obtain ⟨rfl, f1, f2, f3, f4, f5⟩ := q25
    refine ju_incN (pc := 28) (v := nI ((k) + 1)) (lv' := [some _, some _, some _, some _, some _, none]) d12100_28 rfl (nI_1 (k)) rfl ?_
    refine je_goto (pc := 31) 8 d12100_31 (by decide) ?_
    refine kk () _ ⟨e1.tr f1, fun j hj => (f2 j hj).trans (e2 j hj), ?_, fun m hm n hn => ?_⟩
    · rw [f3, e3]
      by_cases c : k = a
      · rw [if_pos c, if_pos (by omega)]; subst c; rfl
      · rw [if_neg c]
        by_cases c2 : a < k
        · rw [if_pos c2, if_pos (by omega)]
        · rw [if_neg c2, if_neg (by omega)]
    · by_cases c : m = k
      · subst c; exact f4 n hn
      · rw [f5 _ (by omega)]; exact e4 m (by omega) n hn
  · obtain ⟨e1, e2, e3, e4⟩ := e
    have H1 := e1.St H
    have hS1 : mSt h'.2.1 S := hS.fr (fun b hb => e1.2 b (by omega)) (fun j hj => by rw [e1.2 254 (by omega)])
    refine je_iload (pc := 8) d12100_8 rfl ?_
    refine je_aload0 (pc := 10) d12100_10 rfl ?_
    refine ju_getr (pc := 11) (b := 254) d12100_11 jF_12_9 rfl (sK253 H1) (sR253_1 H1) ?_
    refine je_iconst (pc := 14) (v := 0) d12100_14 rfl ?_
    refine ju_iald (pc := 15) (jn := 0) d12100_15 (sK254 H1) (by first | assumption | exact jx_ok_dec (by decide)) (by decide) ?_
    refine ju_eqi (v := nI S.1.1) hS1.1.1 ?_
    refine jn_icge (pc := 16) (a := ((S.1.1))) (b := (S.1.1)) 34 d12100_16 (by decide) (by omega) (by omega) (fun c16 => ?_) (fun c16 => by exfalso; omega)
    refine je_aload0 (pc := 34) d12100_34 rfl ?_
    refine ju_geti (pc := 35) d12100_35 jF_12_533 rfl (sK253 H1) ?_
    refine ju_eqi (v := b2 (posP S z a b ∧ agF S z ln lm ld a b 0 = true)) (by rw [e3, if_pos ha]; exact b2_c (by rw [ci_u wS (by omega) (fun i hi q => by omega)]; exact ⟨fun q => ⟨⟨q.2, q.1⟩, rfl⟩, fun q => ⟨q.1.2, q.1.1⟩⟩)) ?_
    refine ju_istore (pc := 38) (lv' := [some _, some _, some _, some _, some _, none]) d12100_38 rfl rfl ?_
    exact mo_df H1 hS1 wS hmi (by rw [e1.2 254 (by omega)]; exact h6) hlg (fun k hk => by rw [e1.2 265 (by omega), e1.2 266 (by omega), e1.2 267 (by omega)]; exact hl k hk) wl hb e4 _ ⟨rfl, e1, e2, e4⟩
