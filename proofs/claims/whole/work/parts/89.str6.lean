/-! a strip told: the model reads clauses -/
def mSe : Nat → Nat
  | 0 => 38 | 1 => 23 | 2 => 28 | 3 => 39 | 4 => 40 | _ => 41
theorem mSe_w : ∀ k, k < 6 → wdO (mSe k) = wdO k := by decide +kernel
theorem mSe_l : ∀ k, mSe k < 44 := by
  intro k
  unfold mSe
  split <;> decide
set_option maxHeartbeats 2000000 in
theorem t_Mo_stripWord (d : Nat) {bc bs : Nat} {h : jx_H} {k : Nat} (hk : k < 6) : jx_Tr (d + 1) bc bs 12010 [.int (nI k)] h (fun r h' => r = some (.ref (1000000 + mSe k)) ∧ h' = h) := by
  refine jx_tr jM_Mo_stripWord rfl rfl (lv := [some (.int (nI k))]) rfl ?_
  refine je_iload0 (pc := 0) d12010_0 rfl ?_
  by_cases s1_0 : nI k = 0
  · refine je_table (pc := 1) 36 d12010_1 (by rw [s1_0]; decide) (by rw [s1_0]; decide) (off := 35) (by rw [s1_0]; rfl) (by decide) ?_
    refine je_ldwS (pc := 36) (e := 38) d12010_36 rfl ?_
    refine je_aret (pc := 39) d12010_39 rfl ?_
    have ek : k = 0 := (nI_eq (by omega) (by decide)).mp s1_0
    subst ek
    exact ⟨rfl, rfl⟩
  by_cases s1_1 : nI k = 1
  · refine je_table (pc := 1) 40 d12010_1 (by rw [s1_1]; decide) (by rw [s1_1]; decide) (off := 39) (by rw [s1_1]; rfl) (by decide) ?_
    refine je_ldcS (pc := 40) (e := 23) d12010_40 rfl ?_
    refine je_aret (pc := 42) d12010_42 rfl ?_
    have ek : k = 1 := (nI_eq (by omega) (by decide)).mp s1_1
    subst ek
    exact ⟨rfl, rfl⟩
  by_cases s1_2 : nI k = 2
  · refine je_table (pc := 1) 43 d12010_1 (by rw [s1_2]; decide) (by rw [s1_2]; decide) (off := 42) (by rw [s1_2]; rfl) (by decide) ?_
    refine je_ldcS (pc := 43) (e := 28) d12010_43 rfl ?_
    refine je_aret (pc := 45) d12010_45 rfl ?_
    have ek : k = 2 := (nI_eq (by omega) (by decide)).mp s1_2
    subst ek
    exact ⟨rfl, rfl⟩
  by_cases s1_3 : nI k = 3
  · refine je_table (pc := 1) 46 d12010_1 (by rw [s1_3]; decide) (by rw [s1_3]; decide) (off := 45) (by rw [s1_3]; rfl) (by decide) ?_
    refine je_ldwS (pc := 46) (e := 39) d12010_46 rfl ?_
    refine je_aret (pc := 49) d12010_49 rfl ?_
    have ek : k = 3 := (nI_eq (by omega) (by decide)).mp s1_3
    subst ek
    exact ⟨rfl, rfl⟩
  by_cases s1_4 : nI k = 4
  · refine je_table (pc := 1) 50 d12010_1 (by rw [s1_4]; decide) (by rw [s1_4]; decide) (off := 49) (by rw [s1_4]; rfl) (by decide) ?_
    refine je_ldwS (pc := 50) (e := 40) d12010_50 rfl ?_
    refine je_aret (pc := 53) d12010_53 rfl ?_
    have ek : k = 4 := (nI_eq (by omega) (by decide)).mp s1_4
    subst ek
    exact ⟨rfl, rfl⟩
  have ns1_0 := lv_neT s1_0 (a := 0) rfl
  have ns1_1 := lv_neT s1_1 (a := 1) rfl
  have ns1_2 := lv_neT s1_2 (a := 2) rfl
  have ns1_3 := lv_neT s1_3 (a := 3) rfl
  have ns1_4 := lv_neT s1_4 (a := 4) rfl
  refine je_tableO (pc := 1) 54 d12010_1 (by omega) (by decide) ?_
  refine je_ldwS (pc := 54) (e := 41) d12010_54 rfl ?_
  refine je_aret (pc := 57) d12010_57 rfl ?_
  have ek : k = 5 := by
    have z0 : k ≠ 0 := fun z => s1_0 (by rw [z]; rfl)
    have z1 : k ≠ 1 := fun z => s1_1 (by rw [z]; rfl)
    have z2 : k ≠ 2 := fun z => s1_2 (by rw [z]; rfl)
    have z3 : k ≠ 3 := fun z => s1_3 (by rw [z]; rfl)
    have z4 : k ≠ 4 := fun z => s1_4 (by rw [z]; rfl)
    omega
  subst ek
  exact ⟨rfl, rfl⟩
set_option maxHeartbeats 2000000 in
theorem t_Mo_isFull_0 (d : Nat) {bc bs : Nat} {h : jx_H} {n : Nat} {S : MS} (H : jx_St h) (R : mSn h.2.1 S) (hn : n ≤ 40) (W : S.1.1 ≤ 10 ∧ S.1.2.1 ≤ 8 ∧ S.1.2.2.1 ≤ 8) : jx_Tr (d + 1) bc bs 12013 [.ref 253, .int (nI 0), .int (nI n)] h (fun r h' => r = some (.int (b2 (flS n 0 S = true))) ∧ h' = h) := by
  refine jx_tr jM_Mo_isFull rfl rfl (lv := [some (.ref 253), some (.int (nI 0)), some (.int (nI n))]) rfl ?_
  by_cases n0 : n = 0
  · skip
    refine je_iload2 (pc := 0) d12013_0 rfl ?_
    refine je_bipush (pc := 1) (v := 40) d12013_1 rfl ?_
    refine jn_iceq (pc := 3) (a := (n)) (b := 40) 27 d12013_3 (by decide) (by omega) (by omega) (fun c3 => by exfalso; omega) (fun c3 => ?_)
    refine je_iload1 (pc := 6) d12013_6 rfl ?_
    refine jn_ifne (pc := 7) (a := 0) 14 d12013_7 (by decide) (by omega) (fun c7 => by exfalso; omega) (fun c7 => ?_)
    refine je_iconst (pc := 10) (v := 1) d12013_10 rfl ?_
    refine je_goto (pc := 11) 15 d12013_11 (by decide) ?_
    refine je_iload2 (pc := 15) d12013_15 rfl ?_
    refine jn_ifne (pc := 16) (a := (n)) 23 d12013_16 (by decide) (by omega) (fun c16 => by exfalso; omega) (fun c16 => ?_)
    refine je_iconst (pc := 19) (v := 1) d12013_19 rfl ?_
    refine je_goto (pc := 20) 24 d12013_20 (by decide) ?_
    refine jn_iceq (pc := 24) (a := 1) (b := 1) 29 d12013_24 (by decide) (by omega) (by omega) (fun c24 => ?_) (fun c24 => by exfalso; omega)
    refine je_iload1 (pc := 29) d12013_29 rfl ?_
    refine je_lookup (pc := 30) 90 d12013_30 (by decide) (off := 60) (by decide) (by decide) ?_
    refine je_iconst (pc := 90) (v := 0) d12013_90 rfl ?_
    refine je_zret (pc := 91) d12013_91 rfl (by decide) ?_
    exact ⟨by rw [b2_f (show ¬ flS n 0 S = true from fun z => by have := of_decide_eq_true z; omega)], rfl⟩
  · skip
    refine je_iload2 (pc := 0) d12013_0 rfl ?_
    refine je_bipush (pc := 1) (v := 40) d12013_1 rfl ?_
    refine jn_iceq (pc := 3) (a := (n)) (b := 40) 27 d12013_3 (by decide) (by omega) (by omega) (fun c3 => ?_) (fun c3 => ?_)
    · refine je_iconst (pc := 27) (v := 1) d12013_27 rfl ?_
      refine je_zret (pc := 28) d12013_28 rfl (by decide) ?_
      exact ⟨by rw [b2_t (show flS n 0 S = true from decide_eq_true (by omega))], rfl⟩
    · refine je_iload1 (pc := 6) d12013_6 rfl ?_
      refine jn_ifne (pc := 7) (a := 0) 14 d12013_7 (by decide) (by omega) (fun c7 => by exfalso; omega) (fun c7 => ?_)
      refine je_iconst (pc := 10) (v := 1) d12013_10 rfl ?_
      refine je_goto (pc := 11) 15 d12013_11 (by decide) ?_
      refine je_iload2 (pc := 15) d12013_15 rfl ?_
      refine jn_ifne (pc := 16) (a := (n)) 23 d12013_16 (by decide) (by omega) (fun c16 => ?_) (fun c16 => by exfalso; omega)
      refine je_iconst (pc := 23) (v := 0) d12013_23 rfl ?_
      refine jn_iceq (pc := 24) (a := 1) (b := 0) 29 d12013_24 (by decide) (by omega) (by omega) (fun c24 => by exfalso; omega) (fun c24 => ?_)
      refine je_iconst (pc := 27) (v := 1) d12013_27 rfl ?_
      refine je_zret (pc := 28) d12013_28 rfl (by decide) ?_
      exact ⟨by rw [b2_t (show flS n 0 S = true from decide_eq_true (by omega))], rfl⟩
set_option maxHeartbeats 2000000 in
theorem t_Mo_isFull_1 (d : Nat) {bc bs : Nat} {h : jx_H} {n : Nat} {S : MS} (H : jx_St h) (R : mSn h.2.1 S) (hn : n ≤ 40) (W : S.1.1 ≤ 10 ∧ S.1.2.1 ≤ 8 ∧ S.1.2.2.1 ≤ 8) : jx_Tr (d + 1) bc bs 12013 [.ref 253, .int (nI 1), .int (nI n)] h (fun r h' => r = some (.int (b2 (flS n 1 S = true))) ∧ h' = h) := by
  refine jx_tr jM_Mo_isFull rfl rfl (lv := [some (.ref 253), some (.int (nI 1)), some (.int (nI n))]) rfl ?_
  by_cases n0 : n = 0
  · skip
    refine je_iload2 (pc := 0) d12013_0 rfl ?_
    refine je_bipush (pc := 1) (v := 40) d12013_1 rfl ?_
    refine jn_iceq (pc := 3) (a := (n)) (b := 40) 27 d12013_3 (by decide) (by omega) (by omega) (fun c3 => by exfalso; omega) (fun c3 => ?_)
    refine je_iload1 (pc := 6) d12013_6 rfl ?_
    refine jn_ifne (pc := 7) (a := 1) 14 d12013_7 (by decide) (by omega) (fun c7 => ?_) (fun c7 => by exfalso; omega)
    refine je_iconst (pc := 14) (v := 0) d12013_14 rfl ?_
    refine je_iload2 (pc := 15) d12013_15 rfl ?_
    refine jn_ifne (pc := 16) (a := (n)) 23 d12013_16 (by decide) (by omega) (fun c16 => by exfalso; omega) (fun c16 => ?_)
    refine je_iconst (pc := 19) (v := 1) d12013_19 rfl ?_
    refine je_goto (pc := 20) 24 d12013_20 (by decide) ?_
    refine jn_iceq (pc := 24) (a := 0) (b := 1) 29 d12013_24 (by decide) (by omega) (by omega) (fun c24 => by exfalso; omega) (fun c24 => ?_)
    refine je_iconst (pc := 27) (v := 1) d12013_27 rfl ?_
    refine je_zret (pc := 28) d12013_28 rfl (by decide) ?_
    exact ⟨by rw [b2_t (show flS n 1 S = true from decide_eq_true (by omega))], rfl⟩
  · skip
    refine je_iload2 (pc := 0) d12013_0 rfl ?_
    refine je_bipush (pc := 1) (v := 40) d12013_1 rfl ?_
    refine jn_iceq (pc := 3) (a := (n)) (b := 40) 27 d12013_3 (by decide) (by omega) (by omega) (fun c3 => ?_) (fun c3 => ?_)
    · refine je_iconst (pc := 27) (v := 1) d12013_27 rfl ?_
      refine je_zret (pc := 28) d12013_28 rfl (by decide) ?_
      exact ⟨by rw [b2_t (show flS n 1 S = true from decide_eq_true (by omega))], rfl⟩
    · refine je_iload1 (pc := 6) d12013_6 rfl ?_
      refine jn_ifne (pc := 7) (a := 1) 14 d12013_7 (by decide) (by omega) (fun c7 => ?_) (fun c7 => by exfalso; omega)
      refine je_iconst (pc := 14) (v := 0) d12013_14 rfl ?_
      refine je_iload2 (pc := 15) d12013_15 rfl ?_
      refine jn_ifne (pc := 16) (a := (n)) 23 d12013_16 (by decide) (by omega) (fun c16 => ?_) (fun c16 => by exfalso; omega)
      refine je_iconst (pc := 23) (v := 0) d12013_23 rfl ?_
      refine jn_iceq (pc := 24) (a := 0) (b := 0) 29 d12013_24 (by decide) (by omega) (by omega) (fun c24 => ?_) (fun c24 => by exfalso; omega)
      refine je_iload1 (pc := 29) d12013_29 rfl ?_
      refine je_lookup (pc := 30) 90 d12013_30 (by decide) (off := 60) (by decide) (by decide) ?_
      refine je_iconst (pc := 90) (v := 0) d12013_90 rfl ?_
      refine je_zret (pc := 91) d12013_91 rfl (by decide) ?_
      exact ⟨by rw [b2_f (show ¬ flS n 1 S = true from fun z => by have := of_decide_eq_true z; omega)], rfl⟩
set_option maxHeartbeats 2000000 in
theorem t_Mo_isFull_2 (d : Nat) {bc bs : Nat} {h : jx_H} {n : Nat} {S : MS} (H : jx_St h) (R : mSn h.2.1 S) (hn : n ≤ 40) (W : S.1.1 ≤ 10 ∧ S.1.2.1 ≤ 8 ∧ S.1.2.2.1 ≤ 8) : jx_Tr (d + 1) bc bs 12013 [.ref 253, .int (nI 2), .int (nI n)] h (fun r h' => r = some (.int (b2 (flS n 2 S = true))) ∧ h' = h) := by
  refine jx_tr jM_Mo_isFull rfl rfl (lv := [some (.ref 253), some (.int (nI 2)), some (.int (nI n))]) rfl ?_
  by_cases n0 : n = 0
  · skip
    refine je_iload2 (pc := 0) d12013_0 rfl ?_
    refine je_bipush (pc := 1) (v := 40) d12013_1 rfl ?_
    refine jn_iceq (pc := 3) (a := (n)) (b := 40) 27 d12013_3 (by decide) (by omega) (by omega) (fun c3 => by exfalso; omega) (fun c3 => ?_)
    refine je_iload1 (pc := 6) d12013_6 rfl ?_
    refine jn_ifne (pc := 7) (a := 2) 14 d12013_7 (by decide) (by omega) (fun c7 => ?_) (fun c7 => by exfalso; omega)
    refine je_iconst (pc := 14) (v := 0) d12013_14 rfl ?_
    refine je_iload2 (pc := 15) d12013_15 rfl ?_
    refine jn_ifne (pc := 16) (a := (n)) 23 d12013_16 (by decide) (by omega) (fun c16 => by exfalso; omega) (fun c16 => ?_)
    refine je_iconst (pc := 19) (v := 1) d12013_19 rfl ?_
    refine je_goto (pc := 20) 24 d12013_20 (by decide) ?_
    refine jn_iceq (pc := 24) (a := 0) (b := 1) 29 d12013_24 (by decide) (by omega) (by omega) (fun c24 => by exfalso; omega) (fun c24 => ?_)
    refine je_iconst (pc := 27) (v := 1) d12013_27 rfl ?_
    refine je_zret (pc := 28) d12013_28 rfl (by decide) ?_
    exact ⟨by rw [b2_t (show flS n 2 S = true from decide_eq_true (by omega))], rfl⟩
  · skip
    refine je_iload2 (pc := 0) d12013_0 rfl ?_
    refine je_bipush (pc := 1) (v := 40) d12013_1 rfl ?_
    refine jn_iceq (pc := 3) (a := (n)) (b := 40) 27 d12013_3 (by decide) (by omega) (by omega) (fun c3 => ?_) (fun c3 => ?_)
    · refine je_iconst (pc := 27) (v := 1) d12013_27 rfl ?_
      refine je_zret (pc := 28) d12013_28 rfl (by decide) ?_
      exact ⟨by rw [b2_t (show flS n 2 S = true from decide_eq_true (by omega))], rfl⟩
    · refine je_iload1 (pc := 6) d12013_6 rfl ?_
      refine jn_ifne (pc := 7) (a := 2) 14 d12013_7 (by decide) (by omega) (fun c7 => ?_) (fun c7 => by exfalso; omega)
      refine je_iconst (pc := 14) (v := 0) d12013_14 rfl ?_
      refine je_iload2 (pc := 15) d12013_15 rfl ?_
      refine jn_ifne (pc := 16) (a := (n)) 23 d12013_16 (by decide) (by omega) (fun c16 => ?_) (fun c16 => by exfalso; omega)
      refine je_iconst (pc := 23) (v := 0) d12013_23 rfl ?_
      refine jn_iceq (pc := 24) (a := 0) (b := 0) 29 d12013_24 (by decide) (by omega) (by omega) (fun c24 => ?_) (fun c24 => by exfalso; omega)
      refine je_iload1 (pc := 29) d12013_29 rfl ?_
      refine je_lookup (pc := 30) 90 d12013_30 (by decide) (off := 60) (by decide) (by decide) ?_
      refine je_iconst (pc := 90) (v := 0) d12013_90 rfl ?_
      refine je_zret (pc := 91) d12013_91 rfl (by decide) ?_
      exact ⟨by rw [b2_f (show ¬ flS n 2 S = true from fun z => by have := of_decide_eq_true z; omega)], rfl⟩
set_option maxHeartbeats 2000000 in
theorem t_Mo_isFull_3 (d : Nat) {bc bs : Nat} {h : jx_H} {n : Nat} {S : MS} (H : jx_St h) (R : mSn h.2.1 S) (hn : n ≤ 40) (W : S.1.1 ≤ 10 ∧ S.1.2.1 ≤ 8 ∧ S.1.2.2.1 ≤ 8) : jx_Tr (d + 1) bc bs 12013 [.ref 253, .int (nI 3), .int (nI n)] h (fun r h' => r = some (.int (b2 (flS n 3 S = true))) ∧ h' = h) := by
  refine jx_tr jM_Mo_isFull rfl rfl (lv := [some (.ref 253), some (.int (nI 3)), some (.int (nI n))]) rfl ?_
  by_cases n0 : n = 0
  · skip
    refine je_iload2 (pc := 0) d12013_0 rfl ?_
    refine je_bipush (pc := 1) (v := 40) d12013_1 rfl ?_
    refine jn_iceq (pc := 3) (a := (n)) (b := 40) 27 d12013_3 (by decide) (by omega) (by omega) (fun c3 => by exfalso; omega) (fun c3 => ?_)
    refine je_iload1 (pc := 6) d12013_6 rfl ?_
    refine jn_ifne (pc := 7) (a := 3) 14 d12013_7 (by decide) (by omega) (fun c7 => ?_) (fun c7 => by exfalso; omega)
    refine je_iconst (pc := 14) (v := 0) d12013_14 rfl ?_
    refine je_iload2 (pc := 15) d12013_15 rfl ?_
    refine jn_ifne (pc := 16) (a := (n)) 23 d12013_16 (by decide) (by omega) (fun c16 => by exfalso; omega) (fun c16 => ?_)
    refine je_iconst (pc := 19) (v := 1) d12013_19 rfl ?_
    refine je_goto (pc := 20) 24 d12013_20 (by decide) ?_
    refine jn_iceq (pc := 24) (a := 0) (b := 1) 29 d12013_24 (by decide) (by omega) (by omega) (fun c24 => by exfalso; omega) (fun c24 => ?_)
    refine je_iconst (pc := 27) (v := 1) d12013_27 rfl ?_
    refine je_zret (pc := 28) d12013_28 rfl (by decide) ?_
    exact ⟨by rw [b2_t (show flS n 3 S = true from decide_eq_true (by omega))], rfl⟩
  · skip
    refine je_iload2 (pc := 0) d12013_0 rfl ?_
    refine je_bipush (pc := 1) (v := 40) d12013_1 rfl ?_
    refine jn_iceq (pc := 3) (a := (n)) (b := 40) 27 d12013_3 (by decide) (by omega) (by omega) (fun c3 => ?_) (fun c3 => ?_)
    · refine je_iconst (pc := 27) (v := 1) d12013_27 rfl ?_
      refine je_zret (pc := 28) d12013_28 rfl (by decide) ?_
      exact ⟨by rw [b2_t (show flS n 3 S = true from decide_eq_true (by omega))], rfl⟩
    · refine je_iload1 (pc := 6) d12013_6 rfl ?_
      refine jn_ifne (pc := 7) (a := 3) 14 d12013_7 (by decide) (by omega) (fun c7 => ?_) (fun c7 => by exfalso; omega)
      refine je_iconst (pc := 14) (v := 0) d12013_14 rfl ?_
      refine je_iload2 (pc := 15) d12013_15 rfl ?_
      refine jn_ifne (pc := 16) (a := (n)) 23 d12013_16 (by decide) (by omega) (fun c16 => ?_) (fun c16 => by exfalso; omega)
      refine je_iconst (pc := 23) (v := 0) d12013_23 rfl ?_
      refine jn_iceq (pc := 24) (a := 0) (b := 0) 29 d12013_24 (by decide) (by omega) (by omega) (fun c24 => ?_) (fun c24 => by exfalso; omega)
      refine je_iload1 (pc := 29) d12013_29 rfl ?_
      refine je_lookup (pc := 30) 90 d12013_30 (by decide) (off := 60) (by decide) (by decide) ?_
      refine je_iconst (pc := 90) (v := 0) d12013_90 rfl ?_
      refine je_zret (pc := 91) d12013_91 rfl (by decide) ?_
      exact ⟨by rw [b2_f (show ¬ flS n 3 S = true from fun z => by have := of_decide_eq_true z; omega)], rfl⟩
set_option maxHeartbeats 2000000 in
theorem t_Mo_isFull_4 (d : Nat) {bc bs : Nat} {h : jx_H} {n : Nat} {S : MS} (H : jx_St h) (R : mSn h.2.1 S) (hn : n ≤ 40) (W : S.1.1 ≤ 10 ∧ S.1.2.1 ≤ 8 ∧ S.1.2.2.1 ≤ 8) : jx_Tr (d + 1) bc bs 12013 [.ref 253, .int (nI 4), .int (nI n)] h (fun r h' => r = some (.int (b2 (flS n 4 S = true))) ∧ h' = h) := by
  refine jx_tr jM_Mo_isFull rfl rfl (lv := [some (.ref 253), some (.int (nI 4)), some (.int (nI n))]) rfl ?_
  by_cases n0 : n = 0
  · skip
    refine je_iload2 (pc := 0) d12013_0 rfl ?_
    refine je_bipush (pc := 1) (v := 40) d12013_1 rfl ?_
    refine jn_iceq (pc := 3) (a := (n)) (b := 40) 27 d12013_3 (by decide) (by omega) (by omega) (fun c3 => by exfalso; omega) (fun c3 => ?_)
    refine je_iload1 (pc := 6) d12013_6 rfl ?_
    refine jn_ifne (pc := 7) (a := 4) 14 d12013_7 (by decide) (by omega) (fun c7 => ?_) (fun c7 => by exfalso; omega)
    refine je_iconst (pc := 14) (v := 0) d12013_14 rfl ?_
    refine je_iload2 (pc := 15) d12013_15 rfl ?_
    refine jn_ifne (pc := 16) (a := (n)) 23 d12013_16 (by decide) (by omega) (fun c16 => by exfalso; omega) (fun c16 => ?_)
    refine je_iconst (pc := 19) (v := 1) d12013_19 rfl ?_
    refine je_goto (pc := 20) 24 d12013_20 (by decide) ?_
    refine jn_iceq (pc := 24) (a := 0) (b := 1) 29 d12013_24 (by decide) (by omega) (by omega) (fun c24 => by exfalso; omega) (fun c24 => ?_)
    refine je_iconst (pc := 27) (v := 1) d12013_27 rfl ?_
    refine je_zret (pc := 28) d12013_28 rfl (by decide) ?_
    exact ⟨by rw [b2_t (show flS n 4 S = true from decide_eq_true (by omega))], rfl⟩
  · skip
    refine je_iload2 (pc := 0) d12013_0 rfl ?_
    refine je_bipush (pc := 1) (v := 40) d12013_1 rfl ?_
    refine jn_iceq (pc := 3) (a := (n)) (b := 40) 27 d12013_3 (by decide) (by omega) (by omega) (fun c3 => ?_) (fun c3 => ?_)
    · refine je_iconst (pc := 27) (v := 1) d12013_27 rfl ?_
      refine je_zret (pc := 28) d12013_28 rfl (by decide) ?_
      exact ⟨by rw [b2_t (show flS n 4 S = true from decide_eq_true (by omega))], rfl⟩
    · refine je_iload1 (pc := 6) d12013_6 rfl ?_
      refine jn_ifne (pc := 7) (a := 4) 14 d12013_7 (by decide) (by omega) (fun c7 => ?_) (fun c7 => by exfalso; omega)
      refine je_iconst (pc := 14) (v := 0) d12013_14 rfl ?_
      refine je_iload2 (pc := 15) d12013_15 rfl ?_
      refine jn_ifne (pc := 16) (a := (n)) 23 d12013_16 (by decide) (by omega) (fun c16 => ?_) (fun c16 => by exfalso; omega)
      refine je_iconst (pc := 23) (v := 0) d12013_23 rfl ?_
      refine jn_iceq (pc := 24) (a := 0) (b := 0) 29 d12013_24 (by decide) (by omega) (by omega) (fun c24 => ?_) (fun c24 => by exfalso; omega)
      refine je_iload1 (pc := 29) d12013_29 rfl ?_
      refine je_lookup (pc := 30) 56 d12013_30 (by decide) (off := 26) (by decide) (by decide) ?_
      refine je_aload0 (pc := 56) d12013_56 rfl ?_
      refine ju_getr (pc := 57) (b := 270) d12013_57 jF_12_58 rfl (sK253 H) (sR253_17 H) ?_
      refine je_iconst (pc := 60) (v := 2) d12013_60 rfl ?_
      refine ju_iald (pc := 61) (jn := 2) d12013_61 (sK270 H) (by first | assumption | exact jx_ok_dec (by decide)) (by decide) ?_
      refine ju_eqi (v := nI S.1.2.1) R.1.2.2.1 ?_
      refine je_bipush (pc := 62) (v := 8) d12013_62 rfl ?_
      refine jn_icne (pc := 64) (a := (S.1.2.1)) (b := 8) 71 d12013_64 (by decide) (by omega) (by omega) (fun c64 => ?_) (fun c64 => ?_)
      · refine je_iconst (pc := 71) (v := 0) d12013_71 rfl ?_
        refine je_zret (pc := 72) d12013_72 rfl (by decide) ?_
        exact ⟨by rw [b2_f (show ¬ flS n 4 S = true from fun z => by have := of_decide_eq_true z; omega)], rfl⟩
      · refine je_iconst (pc := 67) (v := 1) d12013_67 rfl ?_
        refine je_goto (pc := 68) 72 d12013_68 (by decide) ?_
        refine je_zret (pc := 72) d12013_72 rfl (by decide) ?_
        exact ⟨by rw [b2_t (show flS n 4 S = true from decide_eq_true (by omega))], rfl⟩
set_option maxHeartbeats 2000000 in
theorem t_Mo_isFull_5 (d : Nat) {bc bs : Nat} {h : jx_H} {n : Nat} {S : MS} (H : jx_St h) (R : mSn h.2.1 S) (hn : n ≤ 40) (W : S.1.1 ≤ 10 ∧ S.1.2.1 ≤ 8 ∧ S.1.2.2.1 ≤ 8) : jx_Tr (d + 1) bc bs 12013 [.ref 253, .int (nI 5), .int (nI n)] h (fun r h' => r = some (.int (b2 (flS n 5 S = true))) ∧ h' = h) := by
  refine jx_tr jM_Mo_isFull rfl rfl (lv := [some (.ref 253), some (.int (nI 5)), some (.int (nI n))]) rfl ?_
  by_cases n0 : n = 0
  · skip
    refine je_iload2 (pc := 0) d12013_0 rfl ?_
    refine je_bipush (pc := 1) (v := 40) d12013_1 rfl ?_
    refine jn_iceq (pc := 3) (a := (n)) (b := 40) 27 d12013_3 (by decide) (by omega) (by omega) (fun c3 => by exfalso; omega) (fun c3 => ?_)
    refine je_iload1 (pc := 6) d12013_6 rfl ?_
    refine jn_ifne (pc := 7) (a := 5) 14 d12013_7 (by decide) (by omega) (fun c7 => ?_) (fun c7 => by exfalso; omega)
    refine je_iconst (pc := 14) (v := 0) d12013_14 rfl ?_
    refine je_iload2 (pc := 15) d12013_15 rfl ?_
    refine jn_ifne (pc := 16) (a := (n)) 23 d12013_16 (by decide) (by omega) (fun c16 => by exfalso; omega) (fun c16 => ?_)
    refine je_iconst (pc := 19) (v := 1) d12013_19 rfl ?_
    refine je_goto (pc := 20) 24 d12013_20 (by decide) ?_
    refine jn_iceq (pc := 24) (a := 0) (b := 1) 29 d12013_24 (by decide) (by omega) (by omega) (fun c24 => by exfalso; omega) (fun c24 => ?_)
    refine je_iconst (pc := 27) (v := 1) d12013_27 rfl ?_
    refine je_zret (pc := 28) d12013_28 rfl (by decide) ?_
    exact ⟨by rw [b2_t (show flS n 5 S = true from decide_eq_true (by omega))], rfl⟩
  · skip
    refine je_iload2 (pc := 0) d12013_0 rfl ?_
    refine je_bipush (pc := 1) (v := 40) d12013_1 rfl ?_
    refine jn_iceq (pc := 3) (a := (n)) (b := 40) 27 d12013_3 (by decide) (by omega) (by omega) (fun c3 => ?_) (fun c3 => ?_)
    · refine je_iconst (pc := 27) (v := 1) d12013_27 rfl ?_
      refine je_zret (pc := 28) d12013_28 rfl (by decide) ?_
      exact ⟨by rw [b2_t (show flS n 5 S = true from decide_eq_true (by omega))], rfl⟩
    · refine je_iload1 (pc := 6) d12013_6 rfl ?_
      refine jn_ifne (pc := 7) (a := 5) 14 d12013_7 (by decide) (by omega) (fun c7 => ?_) (fun c7 => by exfalso; omega)
      refine je_iconst (pc := 14) (v := 0) d12013_14 rfl ?_
      refine je_iload2 (pc := 15) d12013_15 rfl ?_
      refine jn_ifne (pc := 16) (a := (n)) 23 d12013_16 (by decide) (by omega) (fun c16 => ?_) (fun c16 => by exfalso; omega)
      refine je_iconst (pc := 23) (v := 0) d12013_23 rfl ?_
      refine jn_iceq (pc := 24) (a := 0) (b := 0) 29 d12013_24 (by decide) (by omega) (by omega) (fun c24 => ?_) (fun c24 => by exfalso; omega)
      refine je_iload1 (pc := 29) d12013_29 rfl ?_
      refine je_lookup (pc := 30) 73 d12013_30 (by decide) (off := 43) (by decide) (by decide) ?_
      refine je_aload0 (pc := 73) d12013_73 rfl ?_
      refine ju_getr (pc := 74) (b := 270) d12013_74 jF_12_58 rfl (sK253 H) (sR253_17 H) ?_
      refine je_iconst (pc := 77) (v := 3) d12013_77 rfl ?_
      refine ju_iald (pc := 78) (jn := 3) d12013_78 (sK270 H) (by first | assumption | exact jx_ok_dec (by decide)) (by decide) ?_
      refine ju_eqi (v := nI S.1.2.2.1) R.1.2.2.2.1 ?_
      refine je_bipush (pc := 79) (v := 8) d12013_79 rfl ?_
      refine jn_icne (pc := 81) (a := (S.1.2.2.1)) (b := 8) 88 d12013_81 (by decide) (by omega) (by omega) (fun c81 => ?_) (fun c81 => ?_)
      · refine je_iconst (pc := 88) (v := 0) d12013_88 rfl ?_
        refine je_zret (pc := 89) d12013_89 rfl (by decide) ?_
        exact ⟨by rw [b2_f (show ¬ flS n 5 S = true from fun z => by have := of_decide_eq_true z; omega)], rfl⟩
      · refine je_iconst (pc := 84) (v := 1) d12013_84 rfl ?_
        refine je_goto (pc := 85) 89 d12013_85 (by decide) ?_
        refine je_zret (pc := 89) d12013_89 rfl (by decide) ?_
        exact ⟨by rw [b2_t (show flS n 5 S = true from decide_eq_true (by omega))], rfl⟩
set_option maxHeartbeats 4000000 in
theorem t_Mo_stripClause_0 (d : Nat) {bc bs : Nat} {h : jx_H} {N n q : Nat} {S : MS} (H : jx_St h) (X : mtS h N (0, q)) (hn : n ≤ 40) (hN : N ≤ 400) (hB : ∀ j, j < N → (h.2.1 280 j).toInt8.toInt32 = h.2.1 280 j) (R : mSn h.2.1 S) (W : S.1.1 ≤ 10 ∧ S.1.2.1 ≤ 8 ∧ S.1.2.2.1 ≤ 8) (hkd : kdS (mT h) N (skB (mT h) N q) = 0) : jx_Tr (d + 8) bc bs 12007 [.ref 253, .int (nI n)] h (fun r h' => r = none ∧ fC mnA h h' ∧ (∀ j, j ≠ 28 → j ≠ 29 → h'.2.1 253 j = h.2.1 253 j) ∧ mtS h' N (clS (mT h) N n q S).1 ∧ ((clS (mT h) N n q S).1.1 = 0 → mSn h'.2.1 (clS (mT h) N n q S).2)) := by
  refine jx_tr jM_Mo_stripClause rfl rfl (lv := [some (.ref 253), some (.int (nI n)), none, none]) rfl ?_
  obtain ⟨t0, fl0, q', hq, p0, eq0⟩ := id X
  obtain rfl := (eq0 rfl).symm
  have fl0 : h.2.1 253 29 = 0 := fl0
  have hb : skB (mT h) N q ≤ N := sk_N hq
  have nz : ∀ c, c ≤ 4 → ¬ fltI (skB (mT h) N q) c = 0 := fun c hc => flt_nz (by omega) hc
  refine je_aload0 (pc := 0) d12007_0 rfl ?_
  refine ju_callv (pc := 1) (as := []) d12007_1 jL_12_237 jM_Mo_blanks rfl (by decide) (sK253 H) rfl (by exact Nat.le_of_ble_eq_true rfl) (t_Mo_blanks (d + 5) (N := N) (p := q) H t0 p0 hN (by omega)) (fun r1 h1 q1 => ?_)
  obtain ⟨rfl, f1, g1, p1⟩ := q1
  have H1 := f1.St H
  have eM : mT h1 = mT h := mT_e f1.mn
  have t1 : h1.2.1 253 27 = nI N := (g1 27 (by decide)).trans t0
  have fl1 : h1.2.1 253 29 = 0 := (g1 29 (by decide)).trans fl0
  have R1 := R.of (fun b b1 b2 => f1.2 b (by omega))
  have hB1 : ∀ j, j < N → (h1.2.1 280 j).toInt8.toInt32 = h1.2.1 280 j := fun j hj => by rw [f1.2 280 (by decide)]; exact hB j hj
  have g1b : ∀ j, j ≠ 28 → j ≠ 29 → h1.2.1 253 j = h.2.1 253 j := fun j a1 _ => g1 j a1
  refine je_aload0 (pc := 4) d12007_4 rfl ?_
  refine ju_geti (pc := 5) d12007_5 jF_12_217 rfl (sK253 H1) ?_
  refine ju_eqi (v := nI (skB (mT h) N q)) p1 ?_
  refine ju_istore2 (pc := 8) (lv' := [some _, some _, some _, none]) d12007_8 rfl rfl ?_
  refine je_iconst (pc := 9) (v := 0) d12007_9 rfl ?_
  refine ju_istore3 (pc := 10) (lv' := [some _, some _, some _, some _]) d12007_10 rfl rfl ?_
  have K34 : jx_Ev (d + 8) bc bs 12007 34 [some (.ref 253), some (.int (nI n)), some (.int (nI (skB (mT h) N q))), some (.int (nI 0))] [] h1 (fun r h' => r = none ∧ fC mnA h h' ∧ (∀ j, j ≠ 28 → j ≠ 29 → h'.2.1 253 j = h.2.1 253 j) ∧ mtS h' N (clS (mT h) N n q S).1 ∧ ((clS (mT h) N n q S).1.1 = 0 → mSn h'.2.1 (clS (mT h) N n q S).2)) := by
    refine je_iload3 (pc := 34) d12007_34 rfl ?_
    refine je_bipush (pc := 35) (v := 6) d12007_35 rfl ?_
    refine jn_icne (pc := 37) (a := 0) (b := 6) 47 d12007_37 (by decide) (by omega) (by omega) (fun c37 => ?_) (fun c37 => by exfalso; omega)
    refine je_aload0 (pc := 47) d12007_47 rfl ?_
    refine je_iload3 (pc := 48) d12007_48 rfl ?_
    refine je_iload1 (pc := 49) d12007_49 rfl ?_
    refine ju_callv (pc := 50) (as := [_, _]) d12007_50 jL_12_339 jM_Mo_isFull rfl (by decide) (sK253 H1) rfl (by exact Nat.le_of_ble_eq_true rfl) (t_Mo_isFull_0 (d + 6) (n := n) (S := S) H1 R1 hn W) (fun r50 h50 q50 => ?_)
    obtain ⟨rfl, e50⟩ := q50
    obtain rfl := e50.symm
    refine jb_ifeq (pc := 53) 63 d12007_53 (by decide) (fun c53 => ?_) (fun c53 => ?_)
    · have fl := c53
      refine je_aload0 (pc := 63) d12007_63 rfl ?_
      refine je_dup (pc := 64) d12007_64 rfl ?_
      refine ju_geti (pc := 65) d12007_65 jF_12_217 rfl (sK253 H1) ?_
      refine ju_eqi (v := nI (skB (mT h) N q)) p1 ?_
      refine je_iload3 (pc := 68) d12007_68 rfl ?_
      refine ju_calls (pc := 69) (as := [_]) d12007_69 jL_12_336 jM_Mo_stripWord rfl rfl (by exact Nat.le_of_ble_eq_true rfl) (t_Mo_stripWord (d + 6) (k := 0) (by decide)) (fun r69 h69 q69 => ?_)
      obtain ⟨rfl, e69⟩ := q69
      obtain rfl := e69.symm
      refine je_callS (pc := 72) (as := []) d12007_72 jL_12_228 jM_Str_length rfl rfl (sq_q (mSe_l 0)) rfl (Nat.le_of_ble_eq_true rfl) (t_Str_length (d + 5) (sq_q (mSe_l 0))) (fun r72 h72 q72 => ?_)
      obtain ⟨rfl, e72⟩ := q72
      obtain rfl := e72.symm
      refine je_iadd (pc := 75) d12007_75 ?_
      refine ju_eqi (v := nI ((skB (mT h) N q) + ((wdO (mSe 0)).length))) (nI_add (skB (mT h) N q) ((wdO (mSe 0)).length)) ?_
      refine ju_puti (pc := 76) d12007_76 jF_12_217 rfl (sK253 H1) ?_
      have wl := wd_tk (kd_is (T := mT h) (N := N) (b := skB (mT h) N q) (by rw [hkd]; decide))
      rw [hkd, ← mSe_w 0 (by decide)] at wl
      have xs : mtS (jx_wI h1 253 28 (nI (skB (mT h) N q + (wdO (mSe 0)).length))) N (0, tkE (mT h) N (skB (mT h) N q)) := ⟨by rw [wI_at, jx_up_ne _ _ (by decide)]; exact t1, by rw [wI_at, jx_up_ne _ _ (by decide)]; exact fl1, _, (tk_N hb).2, by rw [wI_at, jx_up_self, wl], fun _ => rfl⟩
      refine je_aload0 (pc := 79) d12007_79 rfl ?_
      refine je_iload3 (pc := 80) d12007_80 rfl ?_
      refine ju_callv (pc := 81) (as := [_]) d12007_81 jL_12_342 jM_Mo_stripPart rfl (by decide) (sK253 H1.wI) rfl (by exact Nat.le_of_ble_eq_true rfl) (t_Mo_stripPart_0 d (N := N) (s := (0, tkE (mT h) N (skB (mT h) N q))) (S := S) H1.wI xs (tk_N hb).2 hN (R1.of (fun b b1 b2 => wI_ne _ _ _ (by omega))) W) (fun r81 h81 q81 => ?_)
      obtain ⟨rfl, f2, g2, x2, y2⟩ := q81
      rw [mT_e (f1.mn.wI (Or.inl rfl))] at x2 y2
      refine je_ret (pc := 84) d12007_84 rfl ?_
      rw [cl_o (by rw [hkd]; decide) (by rw [hkd]; exact fl), hkd]
      exact ⟨rfl, (f1.mn.wI (Or.inl rfl)).tr f2, (fun j a1 a2 => (g2 j a1 a2).trans (by rw [wI_at, jx_up_ne _ _ a1]; exact g1 j a1)), x2, y2⟩
    · refine je_aload0 (pc := 56) d12007_56 rfl ?_
      refine je_iconst (pc := 57) (v := 4) d12007_57 rfl ?_
      refine je_iload2 (pc := 58) d12007_58 rfl ?_
      refine ju_callv (pc := 59) (as := [_, _]) d12007_59 jL_12_253 jM_Mo_fails rfl (by decide) (sK253 H1) rfl (by exact Nat.le_of_ble_eq_true rfl) (t_Mo_fails (d + 6) (q := skB (mT h) N q) (c := 4) H1 (by omega) (by decide)) (fun r59 h59 q59 => ?_)
      obtain ⟨rfl, eb⟩ := q59
      rw [if_pos fl1] at eb
      obtain rfl := eb.symm
      refine je_ret (pc := 62) d12007_62 rfl ?_
      rw [cl_f (by rw [hkd]; decide) (by rw [hkd]; exact c53)]
      exact ⟨rfl, f1.mn.wI (Or.inl rfl), (fun j a1 a2 => by rw [wI_at, jx_up_ne _ _ a2]; exact g1 j a1), ⟨by rw [wI_at, jx_up_ne _ _ (by decide)]; exact t1, by rw [wI_at, jx_up_self], skB (mT h) N q, hb, by rw [wI_at, jx_up_ne _ _ (by decide)]; exact p1, fun z => absurd z (nz 4 (by decide))⟩, fun z => absurd z (nz 4 (by decide))⟩
  refine je_loop (σ := Unit) (0) (fun k xx => [some (.ref 253), some (.int (nI n)), some (.int (nI (skB (mT h) N q))), some (.int (nI k))]) (fun k _ h' => h' = h1) (fun k xx h' hk e kk => ?_) (fun xx h' e => ?_) (0) () h1 (by omega) rfl
  · obtain rfl := e.symm
    refine je_iload3 (pc := 11) d12007_11 rfl ?_
    refine je_bipush (pc := 12) (v := 6) d12007_12 rfl ?_
    refine jn_icge (pc := 14) (a := (k)) (b := 6) 34 d12007_14 (by decide) (by omega) (by omega) (fun c14 => by exfalso; omega) (fun c14 => ?_)
    refine je_aload0 (pc := 17) d12007_17 rfl ?_
    refine je_iload3 (pc := 18) d12007_18 rfl ?_
    refine ju_calls (pc := 19) (as := [_]) d12007_19 jL_12_336 jM_Mo_stripWord rfl rfl (by exact Nat.le_of_ble_eq_true rfl) (t_Mo_stripWord (d + 6) (k := k) (by omega)) (fun r19 h19 q19 => ?_)
    obtain ⟨rfl, e19⟩ := q19
    obtain rfl := e19.symm
    refine ju_callv (pc := 22) (as := [_]) d12007_22 jL_12_240 jM_Mo_stood rfl (by decide) (sK253 H1) rfl (by exact Nat.le_of_ble_eq_true rfl) (t_Mo_stood (d + 2) (e := mSe (k)) (N := N) (p := skB (mT h) N q) (mSe_l _) H1 t1 p1 hN hb hB1) (fun r22 h22 q22 => ?_)
    obtain ⟨rfl, e22⟩ := q22
    obtain rfl := e22.symm
    rw [mSe_w (k) (by omega), eM]
    refine jb_ifne (pc := 25) 34 d12007_25 (by decide) (fun c25 => absurd c25 (kd_no (by rw [hkd]; exact hk))) (fun c25 => ?_)
    refine ju_incN (pc := 28) (v := nI ((k) + 1)) (lv' := [some _, some _, some _, some _]) d12007_28 rfl (nI_1 (k)) rfl ?_
    refine je_goto (pc := 31) 11 d12007_31 (by decide) ?_
    refine kk () _ rfl
  · obtain rfl := e.symm
    refine je_iload3 (pc := 11) d12007_11 rfl ?_
    refine je_bipush (pc := 12) (v := 6) d12007_12 rfl ?_
    refine jn_icge (pc := 14) (a := ((0))) (b := 6) 34 d12007_14 (by decide) (by omega) (by omega) (fun c14 => by exfalso; omega) (fun c14 => ?_)
    refine je_aload0 (pc := 17) d12007_17 rfl ?_
    refine je_iload3 (pc := 18) d12007_18 rfl ?_
    refine ju_calls (pc := 19) (as := [_]) d12007_19 jL_12_336 jM_Mo_stripWord rfl rfl (by exact Nat.le_of_ble_eq_true rfl) (t_Mo_stripWord (d + 6) (k := 0) (by omega)) (fun r19 h19 q19 => ?_)
    obtain ⟨rfl, e19⟩ := q19
    obtain rfl := e19.symm
    refine ju_callv (pc := 22) (as := [_]) d12007_22 jL_12_240 jM_Mo_stood rfl (by decide) (sK253 H1) rfl (by exact Nat.le_of_ble_eq_true rfl) (t_Mo_stood (d + 2) (e := mSe (0)) (N := N) (p := skB (mT h) N q) (mSe_l _) H1 t1 p1 hN hb hB1) (fun r22 h22 q22 => ?_)
    obtain ⟨rfl, e22⟩ := q22
    obtain rfl := e22.symm
    rw [mSe_w (0) (by omega), eM]
    refine jb_ifne (pc := 25) 34 d12007_25 (by decide) (fun c25 => ?_) (fun c25 => absurd c25 (fun z => z (by have := kd_is (T := mT h) (N := N) (b := skB (mT h) N q) (by rw [hkd]; decide); rw [hkd] at this; exact this)))
    exact K34
set_option maxHeartbeats 4000000 in
theorem t_Mo_stripClause_1 (d : Nat) {bc bs : Nat} {h : jx_H} {N n q : Nat} {S : MS} (H : jx_St h) (X : mtS h N (0, q)) (hn : n ≤ 40) (hN : N ≤ 400) (hB : ∀ j, j < N → (h.2.1 280 j).toInt8.toInt32 = h.2.1 280 j) (R : mSn h.2.1 S) (W : S.1.1 ≤ 10 ∧ S.1.2.1 ≤ 8 ∧ S.1.2.2.1 ≤ 8) (hkd : kdS (mT h) N (skB (mT h) N q) = 1) : jx_Tr (d + 8) bc bs 12007 [.ref 253, .int (nI n)] h (fun r h' => r = none ∧ fC mnA h h' ∧ (∀ j, j ≠ 28 → j ≠ 29 → h'.2.1 253 j = h.2.1 253 j) ∧ mtS h' N (clS (mT h) N n q S).1 ∧ ((clS (mT h) N n q S).1.1 = 0 → mSn h'.2.1 (clS (mT h) N n q S).2)) := by
  refine jx_tr jM_Mo_stripClause rfl rfl (lv := [some (.ref 253), some (.int (nI n)), none, none]) rfl ?_
  obtain ⟨t0, fl0, q', hq, p0, eq0⟩ := id X
  obtain rfl := (eq0 rfl).symm
  have fl0 : h.2.1 253 29 = 0 := fl0
  have hb : skB (mT h) N q ≤ N := sk_N hq
  have nz : ∀ c, c ≤ 4 → ¬ fltI (skB (mT h) N q) c = 0 := fun c hc => flt_nz (by omega) hc
  refine je_aload0 (pc := 0) d12007_0 rfl ?_
  refine ju_callv (pc := 1) (as := []) d12007_1 jL_12_237 jM_Mo_blanks rfl (by decide) (sK253 H) rfl (by exact Nat.le_of_ble_eq_true rfl) (t_Mo_blanks (d + 5) (N := N) (p := q) H t0 p0 hN (by omega)) (fun r1 h1 q1 => ?_)
  obtain ⟨rfl, f1, g1, p1⟩ := q1
  have H1 := f1.St H
  have eM : mT h1 = mT h := mT_e f1.mn
  have t1 : h1.2.1 253 27 = nI N := (g1 27 (by decide)).trans t0
  have fl1 : h1.2.1 253 29 = 0 := (g1 29 (by decide)).trans fl0
  have R1 := R.of (fun b b1 b2 => f1.2 b (by omega))
  have hB1 : ∀ j, j < N → (h1.2.1 280 j).toInt8.toInt32 = h1.2.1 280 j := fun j hj => by rw [f1.2 280 (by decide)]; exact hB j hj
  have g1b : ∀ j, j ≠ 28 → j ≠ 29 → h1.2.1 253 j = h.2.1 253 j := fun j a1 _ => g1 j a1
  refine je_aload0 (pc := 4) d12007_4 rfl ?_
  refine ju_geti (pc := 5) d12007_5 jF_12_217 rfl (sK253 H1) ?_
  refine ju_eqi (v := nI (skB (mT h) N q)) p1 ?_
  refine ju_istore2 (pc := 8) (lv' := [some _, some _, some _, none]) d12007_8 rfl rfl ?_
  refine je_iconst (pc := 9) (v := 0) d12007_9 rfl ?_
  refine ju_istore3 (pc := 10) (lv' := [some _, some _, some _, some _]) d12007_10 rfl rfl ?_
  have K34 : jx_Ev (d + 8) bc bs 12007 34 [some (.ref 253), some (.int (nI n)), some (.int (nI (skB (mT h) N q))), some (.int (nI 1))] [] h1 (fun r h' => r = none ∧ fC mnA h h' ∧ (∀ j, j ≠ 28 → j ≠ 29 → h'.2.1 253 j = h.2.1 253 j) ∧ mtS h' N (clS (mT h) N n q S).1 ∧ ((clS (mT h) N n q S).1.1 = 0 → mSn h'.2.1 (clS (mT h) N n q S).2)) := by
    refine je_iload3 (pc := 34) d12007_34 rfl ?_
    refine je_bipush (pc := 35) (v := 6) d12007_35 rfl ?_
    refine jn_icne (pc := 37) (a := 1) (b := 6) 47 d12007_37 (by decide) (by omega) (by omega) (fun c37 => ?_) (fun c37 => by exfalso; omega)
    refine je_aload0 (pc := 47) d12007_47 rfl ?_
    refine je_iload3 (pc := 48) d12007_48 rfl ?_
    refine je_iload1 (pc := 49) d12007_49 rfl ?_
    refine ju_callv (pc := 50) (as := [_, _]) d12007_50 jL_12_339 jM_Mo_isFull rfl (by decide) (sK253 H1) rfl (by exact Nat.le_of_ble_eq_true rfl) (t_Mo_isFull_1 (d + 6) (n := n) (S := S) H1 R1 hn W) (fun r50 h50 q50 => ?_)
    obtain ⟨rfl, e50⟩ := q50
    obtain rfl := e50.symm
    refine jb_ifeq (pc := 53) 63 d12007_53 (by decide) (fun c53 => ?_) (fun c53 => ?_)
    · have fl := c53
      refine je_aload0 (pc := 63) d12007_63 rfl ?_
      refine je_dup (pc := 64) d12007_64 rfl ?_
      refine ju_geti (pc := 65) d12007_65 jF_12_217 rfl (sK253 H1) ?_
      refine ju_eqi (v := nI (skB (mT h) N q)) p1 ?_
      refine je_iload3 (pc := 68) d12007_68 rfl ?_
      refine ju_calls (pc := 69) (as := [_]) d12007_69 jL_12_336 jM_Mo_stripWord rfl rfl (by exact Nat.le_of_ble_eq_true rfl) (t_Mo_stripWord (d + 6) (k := 1) (by decide)) (fun r69 h69 q69 => ?_)
      obtain ⟨rfl, e69⟩ := q69
      obtain rfl := e69.symm
      refine je_callS (pc := 72) (as := []) d12007_72 jL_12_228 jM_Str_length rfl rfl (sq_q (mSe_l 1)) rfl (Nat.le_of_ble_eq_true rfl) (t_Str_length (d + 5) (sq_q (mSe_l 1))) (fun r72 h72 q72 => ?_)
      obtain ⟨rfl, e72⟩ := q72
      obtain rfl := e72.symm
      refine je_iadd (pc := 75) d12007_75 ?_
      refine ju_eqi (v := nI ((skB (mT h) N q) + ((wdO (mSe 1)).length))) (nI_add (skB (mT h) N q) ((wdO (mSe 1)).length)) ?_
      refine ju_puti (pc := 76) d12007_76 jF_12_217 rfl (sK253 H1) ?_
      have wl := wd_tk (kd_is (T := mT h) (N := N) (b := skB (mT h) N q) (by rw [hkd]; decide))
      rw [hkd, ← mSe_w 1 (by decide)] at wl
      have xs : mtS (jx_wI h1 253 28 (nI (skB (mT h) N q + (wdO (mSe 1)).length))) N (0, tkE (mT h) N (skB (mT h) N q)) := ⟨by rw [wI_at, jx_up_ne _ _ (by decide)]; exact t1, by rw [wI_at, jx_up_ne _ _ (by decide)]; exact fl1, _, (tk_N hb).2, by rw [wI_at, jx_up_self, wl], fun _ => rfl⟩
      refine je_aload0 (pc := 79) d12007_79 rfl ?_
      refine je_iload3 (pc := 80) d12007_80 rfl ?_
      refine ju_callv (pc := 81) (as := [_]) d12007_81 jL_12_342 jM_Mo_stripPart rfl (by decide) (sK253 H1.wI) rfl (by exact Nat.le_of_ble_eq_true rfl) (t_Mo_stripPart_1 d (N := N) (s := (0, tkE (mT h) N (skB (mT h) N q))) (S := S) H1.wI xs (tk_N hb).2 hN (R1.of (fun b b1 b2 => wI_ne _ _ _ (by omega))) W) (fun r81 h81 q81 => ?_)
      obtain ⟨rfl, f2, g2, x2, y2⟩ := q81
      rw [mT_e (f1.mn.wI (Or.inl rfl))] at x2 y2
      refine je_ret (pc := 84) d12007_84 rfl ?_
      rw [cl_o (by rw [hkd]; decide) (by rw [hkd]; exact fl), hkd]
      exact ⟨rfl, (f1.mn.wI (Or.inl rfl)).tr f2, (fun j a1 a2 => (g2 j a1 a2).trans (by rw [wI_at, jx_up_ne _ _ a1]; exact g1 j a1)), x2, y2⟩
    · refine je_aload0 (pc := 56) d12007_56 rfl ?_
      refine je_iconst (pc := 57) (v := 4) d12007_57 rfl ?_
      refine je_iload2 (pc := 58) d12007_58 rfl ?_
      refine ju_callv (pc := 59) (as := [_, _]) d12007_59 jL_12_253 jM_Mo_fails rfl (by decide) (sK253 H1) rfl (by exact Nat.le_of_ble_eq_true rfl) (t_Mo_fails (d + 6) (q := skB (mT h) N q) (c := 4) H1 (by omega) (by decide)) (fun r59 h59 q59 => ?_)
      obtain ⟨rfl, eb⟩ := q59
      rw [if_pos fl1] at eb
      obtain rfl := eb.symm
      refine je_ret (pc := 62) d12007_62 rfl ?_
      rw [cl_f (by rw [hkd]; decide) (by rw [hkd]; exact c53)]
      exact ⟨rfl, f1.mn.wI (Or.inl rfl), (fun j a1 a2 => by rw [wI_at, jx_up_ne _ _ a2]; exact g1 j a1), ⟨by rw [wI_at, jx_up_ne _ _ (by decide)]; exact t1, by rw [wI_at, jx_up_self], skB (mT h) N q, hb, by rw [wI_at, jx_up_ne _ _ (by decide)]; exact p1, fun z => absurd z (nz 4 (by decide))⟩, fun z => absurd z (nz 4 (by decide))⟩
  refine je_loop (σ := Unit) (1) (fun k xx => [some (.ref 253), some (.int (nI n)), some (.int (nI (skB (mT h) N q))), some (.int (nI k))]) (fun k _ h' => h' = h1) (fun k xx h' hk e kk => ?_) (fun xx h' e => ?_) (0) () h1 (by omega) rfl
  · obtain rfl := e.symm
    refine je_iload3 (pc := 11) d12007_11 rfl ?_
    refine je_bipush (pc := 12) (v := 6) d12007_12 rfl ?_
    refine jn_icge (pc := 14) (a := (k)) (b := 6) 34 d12007_14 (by decide) (by omega) (by omega) (fun c14 => by exfalso; omega) (fun c14 => ?_)
    refine je_aload0 (pc := 17) d12007_17 rfl ?_
    refine je_iload3 (pc := 18) d12007_18 rfl ?_
    refine ju_calls (pc := 19) (as := [_]) d12007_19 jL_12_336 jM_Mo_stripWord rfl rfl (by exact Nat.le_of_ble_eq_true rfl) (t_Mo_stripWord (d + 6) (k := k) (by omega)) (fun r19 h19 q19 => ?_)
    obtain ⟨rfl, e19⟩ := q19
    obtain rfl := e19.symm
    refine ju_callv (pc := 22) (as := [_]) d12007_22 jL_12_240 jM_Mo_stood rfl (by decide) (sK253 H1) rfl (by exact Nat.le_of_ble_eq_true rfl) (t_Mo_stood (d + 2) (e := mSe (k)) (N := N) (p := skB (mT h) N q) (mSe_l _) H1 t1 p1 hN hb hB1) (fun r22 h22 q22 => ?_)
    obtain ⟨rfl, e22⟩ := q22
    obtain rfl := e22.symm
    rw [mSe_w (k) (by omega), eM]
    refine jb_ifne (pc := 25) 34 d12007_25 (by decide) (fun c25 => absurd c25 (kd_no (by rw [hkd]; exact hk))) (fun c25 => ?_)
    refine ju_incN (pc := 28) (v := nI ((k) + 1)) (lv' := [some _, some _, some _, some _]) d12007_28 rfl (nI_1 (k)) rfl ?_
    refine je_goto (pc := 31) 11 d12007_31 (by decide) ?_
    refine kk () _ rfl
  · obtain rfl := e.symm
    refine je_iload3 (pc := 11) d12007_11 rfl ?_
    refine je_bipush (pc := 12) (v := 6) d12007_12 rfl ?_
    refine jn_icge (pc := 14) (a := ((1))) (b := 6) 34 d12007_14 (by decide) (by omega) (by omega) (fun c14 => by exfalso; omega) (fun c14 => ?_)
    refine je_aload0 (pc := 17) d12007_17 rfl ?_
    refine je_iload3 (pc := 18) d12007_18 rfl ?_
    refine ju_calls (pc := 19) (as := [_]) d12007_19 jL_12_336 jM_Mo_stripWord rfl rfl (by exact Nat.le_of_ble_eq_true rfl) (t_Mo_stripWord (d + 6) (k := 1) (by omega)) (fun r19 h19 q19 => ?_)
    obtain ⟨rfl, e19⟩ := q19
    obtain rfl := e19.symm
    refine ju_callv (pc := 22) (as := [_]) d12007_22 jL_12_240 jM_Mo_stood rfl (by decide) (sK253 H1) rfl (by exact Nat.le_of_ble_eq_true rfl) (t_Mo_stood (d + 2) (e := mSe (1)) (N := N) (p := skB (mT h) N q) (mSe_l _) H1 t1 p1 hN hb hB1) (fun r22 h22 q22 => ?_)
    obtain ⟨rfl, e22⟩ := q22
    obtain rfl := e22.symm
    rw [mSe_w (1) (by omega), eM]
    refine jb_ifne (pc := 25) 34 d12007_25 (by decide) (fun c25 => ?_) (fun c25 => absurd c25 (fun z => z (by have := kd_is (T := mT h) (N := N) (b := skB (mT h) N q) (by rw [hkd]; decide); rw [hkd] at this; exact this)))
    exact K34
set_option maxHeartbeats 4000000 in
theorem t_Mo_stripClause_2 (d : Nat) {bc bs : Nat} {h : jx_H} {N n q : Nat} {S : MS} (H : jx_St h) (X : mtS h N (0, q)) (hn : n ≤ 40) (hN : N ≤ 400) (hB : ∀ j, j < N → (h.2.1 280 j).toInt8.toInt32 = h.2.1 280 j) (R : mSn h.2.1 S) (W : S.1.1 ≤ 10 ∧ S.1.2.1 ≤ 8 ∧ S.1.2.2.1 ≤ 8) (hkd : kdS (mT h) N (skB (mT h) N q) = 2) : jx_Tr (d + 8) bc bs 12007 [.ref 253, .int (nI n)] h (fun r h' => r = none ∧ fC mnA h h' ∧ (∀ j, j ≠ 28 → j ≠ 29 → h'.2.1 253 j = h.2.1 253 j) ∧ mtS h' N (clS (mT h) N n q S).1 ∧ ((clS (mT h) N n q S).1.1 = 0 → mSn h'.2.1 (clS (mT h) N n q S).2)) := by
  refine jx_tr jM_Mo_stripClause rfl rfl (lv := [some (.ref 253), some (.int (nI n)), none, none]) rfl ?_
  obtain ⟨t0, fl0, q', hq, p0, eq0⟩ := id X
  obtain rfl := (eq0 rfl).symm
  have fl0 : h.2.1 253 29 = 0 := fl0
  have hb : skB (mT h) N q ≤ N := sk_N hq
  have nz : ∀ c, c ≤ 4 → ¬ fltI (skB (mT h) N q) c = 0 := fun c hc => flt_nz (by omega) hc
  refine je_aload0 (pc := 0) d12007_0 rfl ?_
  refine ju_callv (pc := 1) (as := []) d12007_1 jL_12_237 jM_Mo_blanks rfl (by decide) (sK253 H) rfl (by exact Nat.le_of_ble_eq_true rfl) (t_Mo_blanks (d + 5) (N := N) (p := q) H t0 p0 hN (by omega)) (fun r1 h1 q1 => ?_)
  obtain ⟨rfl, f1, g1, p1⟩ := q1
  have H1 := f1.St H
  have eM : mT h1 = mT h := mT_e f1.mn
  have t1 : h1.2.1 253 27 = nI N := (g1 27 (by decide)).trans t0
  have fl1 : h1.2.1 253 29 = 0 := (g1 29 (by decide)).trans fl0
  have R1 := R.of (fun b b1 b2 => f1.2 b (by omega))
  have hB1 : ∀ j, j < N → (h1.2.1 280 j).toInt8.toInt32 = h1.2.1 280 j := fun j hj => by rw [f1.2 280 (by decide)]; exact hB j hj
  have g1b : ∀ j, j ≠ 28 → j ≠ 29 → h1.2.1 253 j = h.2.1 253 j := fun j a1 _ => g1 j a1
  refine je_aload0 (pc := 4) d12007_4 rfl ?_
  refine ju_geti (pc := 5) d12007_5 jF_12_217 rfl (sK253 H1) ?_
  refine ju_eqi (v := nI (skB (mT h) N q)) p1 ?_
  refine ju_istore2 (pc := 8) (lv' := [some _, some _, some _, none]) d12007_8 rfl rfl ?_
  refine je_iconst (pc := 9) (v := 0) d12007_9 rfl ?_
  refine ju_istore3 (pc := 10) (lv' := [some _, some _, some _, some _]) d12007_10 rfl rfl ?_
  have K34 : jx_Ev (d + 8) bc bs 12007 34 [some (.ref 253), some (.int (nI n)), some (.int (nI (skB (mT h) N q))), some (.int (nI 2))] [] h1 (fun r h' => r = none ∧ fC mnA h h' ∧ (∀ j, j ≠ 28 → j ≠ 29 → h'.2.1 253 j = h.2.1 253 j) ∧ mtS h' N (clS (mT h) N n q S).1 ∧ ((clS (mT h) N n q S).1.1 = 0 → mSn h'.2.1 (clS (mT h) N n q S).2)) := by
    refine je_iload3 (pc := 34) d12007_34 rfl ?_
    refine je_bipush (pc := 35) (v := 6) d12007_35 rfl ?_
    refine jn_icne (pc := 37) (a := 2) (b := 6) 47 d12007_37 (by decide) (by omega) (by omega) (fun c37 => ?_) (fun c37 => by exfalso; omega)
    refine je_aload0 (pc := 47) d12007_47 rfl ?_
    refine je_iload3 (pc := 48) d12007_48 rfl ?_
    refine je_iload1 (pc := 49) d12007_49 rfl ?_
    refine ju_callv (pc := 50) (as := [_, _]) d12007_50 jL_12_339 jM_Mo_isFull rfl (by decide) (sK253 H1) rfl (by exact Nat.le_of_ble_eq_true rfl) (t_Mo_isFull_2 (d + 6) (n := n) (S := S) H1 R1 hn W) (fun r50 h50 q50 => ?_)
    obtain ⟨rfl, e50⟩ := q50
    obtain rfl := e50.symm
    refine jb_ifeq (pc := 53) 63 d12007_53 (by decide) (fun c53 => ?_) (fun c53 => ?_)
    · have fl := c53
      refine je_aload0 (pc := 63) d12007_63 rfl ?_
      refine je_dup (pc := 64) d12007_64 rfl ?_
      refine ju_geti (pc := 65) d12007_65 jF_12_217 rfl (sK253 H1) ?_
      refine ju_eqi (v := nI (skB (mT h) N q)) p1 ?_
      refine je_iload3 (pc := 68) d12007_68 rfl ?_
      refine ju_calls (pc := 69) (as := [_]) d12007_69 jL_12_336 jM_Mo_stripWord rfl rfl (by exact Nat.le_of_ble_eq_true rfl) (t_Mo_stripWord (d + 6) (k := 2) (by decide)) (fun r69 h69 q69 => ?_)
      obtain ⟨rfl, e69⟩ := q69
      obtain rfl := e69.symm
      refine je_callS (pc := 72) (as := []) d12007_72 jL_12_228 jM_Str_length rfl rfl (sq_q (mSe_l 2)) rfl (Nat.le_of_ble_eq_true rfl) (t_Str_length (d + 5) (sq_q (mSe_l 2))) (fun r72 h72 q72 => ?_)
      obtain ⟨rfl, e72⟩ := q72
      obtain rfl := e72.symm
      refine je_iadd (pc := 75) d12007_75 ?_
      refine ju_eqi (v := nI ((skB (mT h) N q) + ((wdO (mSe 2)).length))) (nI_add (skB (mT h) N q) ((wdO (mSe 2)).length)) ?_
      refine ju_puti (pc := 76) d12007_76 jF_12_217 rfl (sK253 H1) ?_
      have wl := wd_tk (kd_is (T := mT h) (N := N) (b := skB (mT h) N q) (by rw [hkd]; decide))
      rw [hkd, ← mSe_w 2 (by decide)] at wl
      have xs : mtS (jx_wI h1 253 28 (nI (skB (mT h) N q + (wdO (mSe 2)).length))) N (0, tkE (mT h) N (skB (mT h) N q)) := ⟨by rw [wI_at, jx_up_ne _ _ (by decide)]; exact t1, by rw [wI_at, jx_up_ne _ _ (by decide)]; exact fl1, _, (tk_N hb).2, by rw [wI_at, jx_up_self, wl], fun _ => rfl⟩
      refine je_aload0 (pc := 79) d12007_79 rfl ?_
      refine je_iload3 (pc := 80) d12007_80 rfl ?_
      refine ju_callv (pc := 81) (as := [_]) d12007_81 jL_12_342 jM_Mo_stripPart rfl (by decide) (sK253 H1.wI) rfl (by exact Nat.le_of_ble_eq_true rfl) (t_Mo_stripPart_2 d (N := N) (s := (0, tkE (mT h) N (skB (mT h) N q))) (S := S) H1.wI xs (tk_N hb).2 hN (R1.of (fun b b1 b2 => wI_ne _ _ _ (by omega))) W) (fun r81 h81 q81 => ?_)
      obtain ⟨rfl, f2, g2, x2, y2⟩ := q81
      rw [mT_e (f1.mn.wI (Or.inl rfl))] at x2 y2
      refine je_ret (pc := 84) d12007_84 rfl ?_
      rw [cl_o (by rw [hkd]; decide) (by rw [hkd]; exact fl), hkd]
      exact ⟨rfl, (f1.mn.wI (Or.inl rfl)).tr f2, (fun j a1 a2 => (g2 j a1 a2).trans (by rw [wI_at, jx_up_ne _ _ a1]; exact g1 j a1)), x2, y2⟩
    · refine je_aload0 (pc := 56) d12007_56 rfl ?_
      refine je_iconst (pc := 57) (v := 4) d12007_57 rfl ?_
      refine je_iload2 (pc := 58) d12007_58 rfl ?_
      refine ju_callv (pc := 59) (as := [_, _]) d12007_59 jL_12_253 jM_Mo_fails rfl (by decide) (sK253 H1) rfl (by exact Nat.le_of_ble_eq_true rfl) (t_Mo_fails (d + 6) (q := skB (mT h) N q) (c := 4) H1 (by omega) (by decide)) (fun r59 h59 q59 => ?_)
      obtain ⟨rfl, eb⟩ := q59
      rw [if_pos fl1] at eb
      obtain rfl := eb.symm
      refine je_ret (pc := 62) d12007_62 rfl ?_
      rw [cl_f (by rw [hkd]; decide) (by rw [hkd]; exact c53)]
      exact ⟨rfl, f1.mn.wI (Or.inl rfl), (fun j a1 a2 => by rw [wI_at, jx_up_ne _ _ a2]; exact g1 j a1), ⟨by rw [wI_at, jx_up_ne _ _ (by decide)]; exact t1, by rw [wI_at, jx_up_self], skB (mT h) N q, hb, by rw [wI_at, jx_up_ne _ _ (by decide)]; exact p1, fun z => absurd z (nz 4 (by decide))⟩, fun z => absurd z (nz 4 (by decide))⟩
  refine je_loop (σ := Unit) (2) (fun k xx => [some (.ref 253), some (.int (nI n)), some (.int (nI (skB (mT h) N q))), some (.int (nI k))]) (fun k _ h' => h' = h1) (fun k xx h' hk e kk => ?_) (fun xx h' e => ?_) (0) () h1 (by omega) rfl
  · obtain rfl := e.symm
    refine je_iload3 (pc := 11) d12007_11 rfl ?_
    refine je_bipush (pc := 12) (v := 6) d12007_12 rfl ?_
    refine jn_icge (pc := 14) (a := (k)) (b := 6) 34 d12007_14 (by decide) (by omega) (by omega) (fun c14 => by exfalso; omega) (fun c14 => ?_)
    refine je_aload0 (pc := 17) d12007_17 rfl ?_
    refine je_iload3 (pc := 18) d12007_18 rfl ?_
    refine ju_calls (pc := 19) (as := [_]) d12007_19 jL_12_336 jM_Mo_stripWord rfl rfl (by exact Nat.le_of_ble_eq_true rfl) (t_Mo_stripWord (d + 6) (k := k) (by omega)) (fun r19 h19 q19 => ?_)
    obtain ⟨rfl, e19⟩ := q19
    obtain rfl := e19.symm
    refine ju_callv (pc := 22) (as := [_]) d12007_22 jL_12_240 jM_Mo_stood rfl (by decide) (sK253 H1) rfl (by exact Nat.le_of_ble_eq_true rfl) (t_Mo_stood (d + 2) (e := mSe (k)) (N := N) (p := skB (mT h) N q) (mSe_l _) H1 t1 p1 hN hb hB1) (fun r22 h22 q22 => ?_)
    obtain ⟨rfl, e22⟩ := q22
    obtain rfl := e22.symm
    rw [mSe_w (k) (by omega), eM]
    refine jb_ifne (pc := 25) 34 d12007_25 (by decide) (fun c25 => absurd c25 (kd_no (by rw [hkd]; exact hk))) (fun c25 => ?_)
    refine ju_incN (pc := 28) (v := nI ((k) + 1)) (lv' := [some _, some _, some _, some _]) d12007_28 rfl (nI_1 (k)) rfl ?_
    refine je_goto (pc := 31) 11 d12007_31 (by decide) ?_
    refine kk () _ rfl
  · obtain rfl := e.symm
    refine je_iload3 (pc := 11) d12007_11 rfl ?_
    refine je_bipush (pc := 12) (v := 6) d12007_12 rfl ?_
    refine jn_icge (pc := 14) (a := ((2))) (b := 6) 34 d12007_14 (by decide) (by omega) (by omega) (fun c14 => by exfalso; omega) (fun c14 => ?_)
    refine je_aload0 (pc := 17) d12007_17 rfl ?_
    refine je_iload3 (pc := 18) d12007_18 rfl ?_
    refine ju_calls (pc := 19) (as := [_]) d12007_19 jL_12_336 jM_Mo_stripWord rfl rfl (by exact Nat.le_of_ble_eq_true rfl) (t_Mo_stripWord (d + 6) (k := 2) (by omega)) (fun r19 h19 q19 => ?_)
    obtain ⟨rfl, e19⟩ := q19
    obtain rfl := e19.symm
    refine ju_callv (pc := 22) (as := [_]) d12007_22 jL_12_240 jM_Mo_stood rfl (by decide) (sK253 H1) rfl (by exact Nat.le_of_ble_eq_true rfl) (t_Mo_stood (d + 2) (e := mSe (2)) (N := N) (p := skB (mT h) N q) (mSe_l _) H1 t1 p1 hN hb hB1) (fun r22 h22 q22 => ?_)
    obtain ⟨rfl, e22⟩ := q22
    obtain rfl := e22.symm
    rw [mSe_w (2) (by omega), eM]
    refine jb_ifne (pc := 25) 34 d12007_25 (by decide) (fun c25 => ?_) (fun c25 => absurd c25 (fun z => z (by have := kd_is (T := mT h) (N := N) (b := skB (mT h) N q) (by rw [hkd]; decide); rw [hkd] at this; exact this)))
    exact K34
set_option maxHeartbeats 4000000 in
theorem t_Mo_stripClause_3 (d : Nat) {bc bs : Nat} {h : jx_H} {N n q : Nat} {S : MS} (H : jx_St h) (X : mtS h N (0, q)) (hn : n ≤ 40) (hN : N ≤ 400) (hB : ∀ j, j < N → (h.2.1 280 j).toInt8.toInt32 = h.2.1 280 j) (R : mSn h.2.1 S) (W : S.1.1 ≤ 10 ∧ S.1.2.1 ≤ 8 ∧ S.1.2.2.1 ≤ 8) (hkd : kdS (mT h) N (skB (mT h) N q) = 3) : jx_Tr (d + 8) bc bs 12007 [.ref 253, .int (nI n)] h (fun r h' => r = none ∧ fC mnA h h' ∧ (∀ j, j ≠ 28 → j ≠ 29 → h'.2.1 253 j = h.2.1 253 j) ∧ mtS h' N (clS (mT h) N n q S).1 ∧ ((clS (mT h) N n q S).1.1 = 0 → mSn h'.2.1 (clS (mT h) N n q S).2)) := by
  refine jx_tr jM_Mo_stripClause rfl rfl (lv := [some (.ref 253), some (.int (nI n)), none, none]) rfl ?_
  obtain ⟨t0, fl0, q', hq, p0, eq0⟩ := id X
  obtain rfl := (eq0 rfl).symm
  have fl0 : h.2.1 253 29 = 0 := fl0
  have hb : skB (mT h) N q ≤ N := sk_N hq
  have nz : ∀ c, c ≤ 4 → ¬ fltI (skB (mT h) N q) c = 0 := fun c hc => flt_nz (by omega) hc
  refine je_aload0 (pc := 0) d12007_0 rfl ?_
  refine ju_callv (pc := 1) (as := []) d12007_1 jL_12_237 jM_Mo_blanks rfl (by decide) (sK253 H) rfl (by exact Nat.le_of_ble_eq_true rfl) (t_Mo_blanks (d + 5) (N := N) (p := q) H t0 p0 hN (by omega)) (fun r1 h1 q1 => ?_)
  obtain ⟨rfl, f1, g1, p1⟩ := q1
  have H1 := f1.St H
  have eM : mT h1 = mT h := mT_e f1.mn
  have t1 : h1.2.1 253 27 = nI N := (g1 27 (by decide)).trans t0
  have fl1 : h1.2.1 253 29 = 0 := (g1 29 (by decide)).trans fl0
  have R1 := R.of (fun b b1 b2 => f1.2 b (by omega))
  have hB1 : ∀ j, j < N → (h1.2.1 280 j).toInt8.toInt32 = h1.2.1 280 j := fun j hj => by rw [f1.2 280 (by decide)]; exact hB j hj
  have g1b : ∀ j, j ≠ 28 → j ≠ 29 → h1.2.1 253 j = h.2.1 253 j := fun j a1 _ => g1 j a1
  refine je_aload0 (pc := 4) d12007_4 rfl ?_
  refine ju_geti (pc := 5) d12007_5 jF_12_217 rfl (sK253 H1) ?_
  refine ju_eqi (v := nI (skB (mT h) N q)) p1 ?_
  refine ju_istore2 (pc := 8) (lv' := [some _, some _, some _, none]) d12007_8 rfl rfl ?_
  refine je_iconst (pc := 9) (v := 0) d12007_9 rfl ?_
  refine ju_istore3 (pc := 10) (lv' := [some _, some _, some _, some _]) d12007_10 rfl rfl ?_
  have K34 : jx_Ev (d + 8) bc bs 12007 34 [some (.ref 253), some (.int (nI n)), some (.int (nI (skB (mT h) N q))), some (.int (nI 3))] [] h1 (fun r h' => r = none ∧ fC mnA h h' ∧ (∀ j, j ≠ 28 → j ≠ 29 → h'.2.1 253 j = h.2.1 253 j) ∧ mtS h' N (clS (mT h) N n q S).1 ∧ ((clS (mT h) N n q S).1.1 = 0 → mSn h'.2.1 (clS (mT h) N n q S).2)) := by
    refine je_iload3 (pc := 34) d12007_34 rfl ?_
    refine je_bipush (pc := 35) (v := 6) d12007_35 rfl ?_
    refine jn_icne (pc := 37) (a := 3) (b := 6) 47 d12007_37 (by decide) (by omega) (by omega) (fun c37 => ?_) (fun c37 => by exfalso; omega)
    refine je_aload0 (pc := 47) d12007_47 rfl ?_
    refine je_iload3 (pc := 48) d12007_48 rfl ?_
    refine je_iload1 (pc := 49) d12007_49 rfl ?_
    refine ju_callv (pc := 50) (as := [_, _]) d12007_50 jL_12_339 jM_Mo_isFull rfl (by decide) (sK253 H1) rfl (by exact Nat.le_of_ble_eq_true rfl) (t_Mo_isFull_3 (d + 6) (n := n) (S := S) H1 R1 hn W) (fun r50 h50 q50 => ?_)
    obtain ⟨rfl, e50⟩ := q50
    obtain rfl := e50.symm
    refine jb_ifeq (pc := 53) 63 d12007_53 (by decide) (fun c53 => ?_) (fun c53 => ?_)
    · have fl := c53
      refine je_aload0 (pc := 63) d12007_63 rfl ?_
      refine je_dup (pc := 64) d12007_64 rfl ?_
      refine ju_geti (pc := 65) d12007_65 jF_12_217 rfl (sK253 H1) ?_
      refine ju_eqi (v := nI (skB (mT h) N q)) p1 ?_
      refine je_iload3 (pc := 68) d12007_68 rfl ?_
      refine ju_calls (pc := 69) (as := [_]) d12007_69 jL_12_336 jM_Mo_stripWord rfl rfl (by exact Nat.le_of_ble_eq_true rfl) (t_Mo_stripWord (d + 6) (k := 3) (by decide)) (fun r69 h69 q69 => ?_)
      obtain ⟨rfl, e69⟩ := q69
      obtain rfl := e69.symm
      refine je_callS (pc := 72) (as := []) d12007_72 jL_12_228 jM_Str_length rfl rfl (sq_q (mSe_l 3)) rfl (Nat.le_of_ble_eq_true rfl) (t_Str_length (d + 5) (sq_q (mSe_l 3))) (fun r72 h72 q72 => ?_)
      obtain ⟨rfl, e72⟩ := q72
      obtain rfl := e72.symm
      refine je_iadd (pc := 75) d12007_75 ?_
      refine ju_eqi (v := nI ((skB (mT h) N q) + ((wdO (mSe 3)).length))) (nI_add (skB (mT h) N q) ((wdO (mSe 3)).length)) ?_
      refine ju_puti (pc := 76) d12007_76 jF_12_217 rfl (sK253 H1) ?_
      have wl := wd_tk (kd_is (T := mT h) (N := N) (b := skB (mT h) N q) (by rw [hkd]; decide))
      rw [hkd, ← mSe_w 3 (by decide)] at wl
      have xs : mtS (jx_wI h1 253 28 (nI (skB (mT h) N q + (wdO (mSe 3)).length))) N (0, tkE (mT h) N (skB (mT h) N q)) := ⟨by rw [wI_at, jx_up_ne _ _ (by decide)]; exact t1, by rw [wI_at, jx_up_ne _ _ (by decide)]; exact fl1, _, (tk_N hb).2, by rw [wI_at, jx_up_self, wl], fun _ => rfl⟩
      refine je_aload0 (pc := 79) d12007_79 rfl ?_
      refine je_iload3 (pc := 80) d12007_80 rfl ?_
      refine ju_callv (pc := 81) (as := [_]) d12007_81 jL_12_342 jM_Mo_stripPart rfl (by decide) (sK253 H1.wI) rfl (by exact Nat.le_of_ble_eq_true rfl) (t_Mo_stripPart_3 d (N := N) (s := (0, tkE (mT h) N (skB (mT h) N q))) (S := S) H1.wI xs (tk_N hb).2 hN (R1.of (fun b b1 b2 => wI_ne _ _ _ (by omega))) W) (fun r81 h81 q81 => ?_)
      obtain ⟨rfl, f2, g2, x2, y2⟩ := q81
      rw [mT_e (f1.mn.wI (Or.inl rfl))] at x2 y2
      refine je_ret (pc := 84) d12007_84 rfl ?_
      rw [cl_o (by rw [hkd]; decide) (by rw [hkd]; exact fl), hkd]
      exact ⟨rfl, (f1.mn.wI (Or.inl rfl)).tr f2, (fun j a1 a2 => (g2 j a1 a2).trans (by rw [wI_at, jx_up_ne _ _ a1]; exact g1 j a1)), x2, y2⟩
    · refine je_aload0 (pc := 56) d12007_56 rfl ?_
      refine je_iconst (pc := 57) (v := 4) d12007_57 rfl ?_
      refine je_iload2 (pc := 58) d12007_58 rfl ?_
      refine ju_callv (pc := 59) (as := [_, _]) d12007_59 jL_12_253 jM_Mo_fails rfl (by decide) (sK253 H1) rfl (by exact Nat.le_of_ble_eq_true rfl) (t_Mo_fails (d + 6) (q := skB (mT h) N q) (c := 4) H1 (by omega) (by decide)) (fun r59 h59 q59 => ?_)
      obtain ⟨rfl, eb⟩ := q59
      rw [if_pos fl1] at eb
      obtain rfl := eb.symm
      refine je_ret (pc := 62) d12007_62 rfl ?_
      rw [cl_f (by rw [hkd]; decide) (by rw [hkd]; exact c53)]
      exact ⟨rfl, f1.mn.wI (Or.inl rfl), (fun j a1 a2 => by rw [wI_at, jx_up_ne _ _ a2]; exact g1 j a1), ⟨by rw [wI_at, jx_up_ne _ _ (by decide)]; exact t1, by rw [wI_at, jx_up_self], skB (mT h) N q, hb, by rw [wI_at, jx_up_ne _ _ (by decide)]; exact p1, fun z => absurd z (nz 4 (by decide))⟩, fun z => absurd z (nz 4 (by decide))⟩
  refine je_loop (σ := Unit) (3) (fun k xx => [some (.ref 253), some (.int (nI n)), some (.int (nI (skB (mT h) N q))), some (.int (nI k))]) (fun k _ h' => h' = h1) (fun k xx h' hk e kk => ?_) (fun xx h' e => ?_) (0) () h1 (by omega) rfl
  · obtain rfl := e.symm
    refine je_iload3 (pc := 11) d12007_11 rfl ?_
    refine je_bipush (pc := 12) (v := 6) d12007_12 rfl ?_
    refine jn_icge (pc := 14) (a := (k)) (b := 6) 34 d12007_14 (by decide) (by omega) (by omega) (fun c14 => by exfalso; omega) (fun c14 => ?_)
    refine je_aload0 (pc := 17) d12007_17 rfl ?_
    refine je_iload3 (pc := 18) d12007_18 rfl ?_
    refine ju_calls (pc := 19) (as := [_]) d12007_19 jL_12_336 jM_Mo_stripWord rfl rfl (by exact Nat.le_of_ble_eq_true rfl) (t_Mo_stripWord (d + 6) (k := k) (by omega)) (fun r19 h19 q19 => ?_)
    obtain ⟨rfl, e19⟩ := q19
    obtain rfl := e19.symm
    refine ju_callv (pc := 22) (as := [_]) d12007_22 jL_12_240 jM_Mo_stood rfl (by decide) (sK253 H1) rfl (by exact Nat.le_of_ble_eq_true rfl) (t_Mo_stood (d + 2) (e := mSe (k)) (N := N) (p := skB (mT h) N q) (mSe_l _) H1 t1 p1 hN hb hB1) (fun r22 h22 q22 => ?_)
    obtain ⟨rfl, e22⟩ := q22
    obtain rfl := e22.symm
    rw [mSe_w (k) (by omega), eM]
    refine jb_ifne (pc := 25) 34 d12007_25 (by decide) (fun c25 => absurd c25 (kd_no (by rw [hkd]; exact hk))) (fun c25 => ?_)
    refine ju_incN (pc := 28) (v := nI ((k) + 1)) (lv' := [some _, some _, some _, some _]) d12007_28 rfl (nI_1 (k)) rfl ?_
    refine je_goto (pc := 31) 11 d12007_31 (by decide) ?_
    refine kk () _ rfl
  · obtain rfl := e.symm
    refine je_iload3 (pc := 11) d12007_11 rfl ?_
    refine je_bipush (pc := 12) (v := 6) d12007_12 rfl ?_
    refine jn_icge (pc := 14) (a := ((3))) (b := 6) 34 d12007_14 (by decide) (by omega) (by omega) (fun c14 => by exfalso; omega) (fun c14 => ?_)
    refine je_aload0 (pc := 17) d12007_17 rfl ?_
    refine je_iload3 (pc := 18) d12007_18 rfl ?_
    refine ju_calls (pc := 19) (as := [_]) d12007_19 jL_12_336 jM_Mo_stripWord rfl rfl (by exact Nat.le_of_ble_eq_true rfl) (t_Mo_stripWord (d + 6) (k := 3) (by omega)) (fun r19 h19 q19 => ?_)
    obtain ⟨rfl, e19⟩ := q19
    obtain rfl := e19.symm
    refine ju_callv (pc := 22) (as := [_]) d12007_22 jL_12_240 jM_Mo_stood rfl (by decide) (sK253 H1) rfl (by exact Nat.le_of_ble_eq_true rfl) (t_Mo_stood (d + 2) (e := mSe (3)) (N := N) (p := skB (mT h) N q) (mSe_l _) H1 t1 p1 hN hb hB1) (fun r22 h22 q22 => ?_)
    obtain ⟨rfl, e22⟩ := q22
    obtain rfl := e22.symm
    rw [mSe_w (3) (by omega), eM]
    refine jb_ifne (pc := 25) 34 d12007_25 (by decide) (fun c25 => ?_) (fun c25 => absurd c25 (fun z => z (by have := kd_is (T := mT h) (N := N) (b := skB (mT h) N q) (by rw [hkd]; decide); rw [hkd] at this; exact this)))
    exact K34
set_option maxHeartbeats 4000000 in
theorem t_Mo_stripClause_4 (d : Nat) {bc bs : Nat} {h : jx_H} {N n q : Nat} {S : MS} (H : jx_St h) (X : mtS h N (0, q)) (hn : n ≤ 40) (hN : N ≤ 400) (hB : ∀ j, j < N → (h.2.1 280 j).toInt8.toInt32 = h.2.1 280 j) (R : mSn h.2.1 S) (W : S.1.1 ≤ 10 ∧ S.1.2.1 ≤ 8 ∧ S.1.2.2.1 ≤ 8) (hkd : kdS (mT h) N (skB (mT h) N q) = 4) : jx_Tr (d + 8) bc bs 12007 [.ref 253, .int (nI n)] h (fun r h' => r = none ∧ fC mnA h h' ∧ (∀ j, j ≠ 28 → j ≠ 29 → h'.2.1 253 j = h.2.1 253 j) ∧ mtS h' N (clS (mT h) N n q S).1 ∧ ((clS (mT h) N n q S).1.1 = 0 → mSn h'.2.1 (clS (mT h) N n q S).2)) := by
  refine jx_tr jM_Mo_stripClause rfl rfl (lv := [some (.ref 253), some (.int (nI n)), none, none]) rfl ?_
  obtain ⟨t0, fl0, q', hq, p0, eq0⟩ := id X
  obtain rfl := (eq0 rfl).symm
  have fl0 : h.2.1 253 29 = 0 := fl0
  have hb : skB (mT h) N q ≤ N := sk_N hq
  have nz : ∀ c, c ≤ 4 → ¬ fltI (skB (mT h) N q) c = 0 := fun c hc => flt_nz (by omega) hc
  refine je_aload0 (pc := 0) d12007_0 rfl ?_
  refine ju_callv (pc := 1) (as := []) d12007_1 jL_12_237 jM_Mo_blanks rfl (by decide) (sK253 H) rfl (by exact Nat.le_of_ble_eq_true rfl) (t_Mo_blanks (d + 5) (N := N) (p := q) H t0 p0 hN (by omega)) (fun r1 h1 q1 => ?_)
  obtain ⟨rfl, f1, g1, p1⟩ := q1
  have H1 := f1.St H
  have eM : mT h1 = mT h := mT_e f1.mn
  have t1 : h1.2.1 253 27 = nI N := (g1 27 (by decide)).trans t0
  have fl1 : h1.2.1 253 29 = 0 := (g1 29 (by decide)).trans fl0
  have R1 := R.of (fun b b1 b2 => f1.2 b (by omega))
  have hB1 : ∀ j, j < N → (h1.2.1 280 j).toInt8.toInt32 = h1.2.1 280 j := fun j hj => by rw [f1.2 280 (by decide)]; exact hB j hj
  have g1b : ∀ j, j ≠ 28 → j ≠ 29 → h1.2.1 253 j = h.2.1 253 j := fun j a1 _ => g1 j a1
  refine je_aload0 (pc := 4) d12007_4 rfl ?_
  refine ju_geti (pc := 5) d12007_5 jF_12_217 rfl (sK253 H1) ?_
  refine ju_eqi (v := nI (skB (mT h) N q)) p1 ?_
  refine ju_istore2 (pc := 8) (lv' := [some _, some _, some _, none]) d12007_8 rfl rfl ?_
  refine je_iconst (pc := 9) (v := 0) d12007_9 rfl ?_
  refine ju_istore3 (pc := 10) (lv' := [some _, some _, some _, some _]) d12007_10 rfl rfl ?_
  have K34 : jx_Ev (d + 8) bc bs 12007 34 [some (.ref 253), some (.int (nI n)), some (.int (nI (skB (mT h) N q))), some (.int (nI 4))] [] h1 (fun r h' => r = none ∧ fC mnA h h' ∧ (∀ j, j ≠ 28 → j ≠ 29 → h'.2.1 253 j = h.2.1 253 j) ∧ mtS h' N (clS (mT h) N n q S).1 ∧ ((clS (mT h) N n q S).1.1 = 0 → mSn h'.2.1 (clS (mT h) N n q S).2)) := by
    refine je_iload3 (pc := 34) d12007_34 rfl ?_
    refine je_bipush (pc := 35) (v := 6) d12007_35 rfl ?_
    refine jn_icne (pc := 37) (a := 4) (b := 6) 47 d12007_37 (by decide) (by omega) (by omega) (fun c37 => ?_) (fun c37 => by exfalso; omega)
    refine je_aload0 (pc := 47) d12007_47 rfl ?_
    refine je_iload3 (pc := 48) d12007_48 rfl ?_
    refine je_iload1 (pc := 49) d12007_49 rfl ?_
    refine ju_callv (pc := 50) (as := [_, _]) d12007_50 jL_12_339 jM_Mo_isFull rfl (by decide) (sK253 H1) rfl (by exact Nat.le_of_ble_eq_true rfl) (t_Mo_isFull_4 (d + 6) (n := n) (S := S) H1 R1 hn W) (fun r50 h50 q50 => ?_)
    obtain ⟨rfl, e50⟩ := q50
    obtain rfl := e50.symm
    refine jb_ifeq (pc := 53) 63 d12007_53 (by decide) (fun c53 => ?_) (fun c53 => ?_)
    · have fl := c53
      refine je_aload0 (pc := 63) d12007_63 rfl ?_
      refine je_dup (pc := 64) d12007_64 rfl ?_
      refine ju_geti (pc := 65) d12007_65 jF_12_217 rfl (sK253 H1) ?_
      refine ju_eqi (v := nI (skB (mT h) N q)) p1 ?_
      refine je_iload3 (pc := 68) d12007_68 rfl ?_
      refine ju_calls (pc := 69) (as := [_]) d12007_69 jL_12_336 jM_Mo_stripWord rfl rfl (by exact Nat.le_of_ble_eq_true rfl) (t_Mo_stripWord (d + 6) (k := 4) (by decide)) (fun r69 h69 q69 => ?_)
      obtain ⟨rfl, e69⟩ := q69
      obtain rfl := e69.symm
      refine je_callS (pc := 72) (as := []) d12007_72 jL_12_228 jM_Str_length rfl rfl (sq_q (mSe_l 4)) rfl (Nat.le_of_ble_eq_true rfl) (t_Str_length (d + 5) (sq_q (mSe_l 4))) (fun r72 h72 q72 => ?_)
      obtain ⟨rfl, e72⟩ := q72
      obtain rfl := e72.symm
      refine je_iadd (pc := 75) d12007_75 ?_
      refine ju_eqi (v := nI ((skB (mT h) N q) + ((wdO (mSe 4)).length))) (nI_add (skB (mT h) N q) ((wdO (mSe 4)).length)) ?_
      refine ju_puti (pc := 76) d12007_76 jF_12_217 rfl (sK253 H1) ?_
      have wl := wd_tk (kd_is (T := mT h) (N := N) (b := skB (mT h) N q) (by rw [hkd]; decide))
      rw [hkd, ← mSe_w 4 (by decide)] at wl
      have xs : mtS (jx_wI h1 253 28 (nI (skB (mT h) N q + (wdO (mSe 4)).length))) N (0, tkE (mT h) N (skB (mT h) N q)) := ⟨by rw [wI_at, jx_up_ne _ _ (by decide)]; exact t1, by rw [wI_at, jx_up_ne _ _ (by decide)]; exact fl1, _, (tk_N hb).2, by rw [wI_at, jx_up_self, wl], fun _ => rfl⟩
      refine je_aload0 (pc := 79) d12007_79 rfl ?_
      refine je_iload3 (pc := 80) d12007_80 rfl ?_
      refine ju_callv (pc := 81) (as := [_]) d12007_81 jL_12_342 jM_Mo_stripPart rfl (by decide) (sK253 H1.wI) rfl (by exact Nat.le_of_ble_eq_true rfl) (t_Mo_stripPart_4 d (N := N) (s := (0, tkE (mT h) N (skB (mT h) N q))) (S := S) H1.wI xs (tk_N hb).2 hN (R1.of (fun b b1 b2 => wI_ne _ _ _ (by omega))) W (by have := (fl_n fl).2.2.1; omega)) (fun r81 h81 q81 => ?_)
      obtain ⟨rfl, f2, g2, x2, y2⟩ := q81
      rw [mT_e (f1.mn.wI (Or.inl rfl))] at x2 y2
      refine je_ret (pc := 84) d12007_84 rfl ?_
      rw [cl_o (by rw [hkd]; decide) (by rw [hkd]; exact fl), hkd]
      exact ⟨rfl, (f1.mn.wI (Or.inl rfl)).tr f2, (fun j a1 a2 => (g2 j a1 a2).trans (by rw [wI_at, jx_up_ne _ _ a1]; exact g1 j a1)), x2, y2⟩
    · refine je_aload0 (pc := 56) d12007_56 rfl ?_
      refine je_iconst (pc := 57) (v := 4) d12007_57 rfl ?_
      refine je_iload2 (pc := 58) d12007_58 rfl ?_
      refine ju_callv (pc := 59) (as := [_, _]) d12007_59 jL_12_253 jM_Mo_fails rfl (by decide) (sK253 H1) rfl (by exact Nat.le_of_ble_eq_true rfl) (t_Mo_fails (d + 6) (q := skB (mT h) N q) (c := 4) H1 (by omega) (by decide)) (fun r59 h59 q59 => ?_)
      obtain ⟨rfl, eb⟩ := q59
      rw [if_pos fl1] at eb
      obtain rfl := eb.symm
      refine je_ret (pc := 62) d12007_62 rfl ?_
      rw [cl_f (by rw [hkd]; decide) (by rw [hkd]; exact c53)]
      exact ⟨rfl, f1.mn.wI (Or.inl rfl), (fun j a1 a2 => by rw [wI_at, jx_up_ne _ _ a2]; exact g1 j a1), ⟨by rw [wI_at, jx_up_ne _ _ (by decide)]; exact t1, by rw [wI_at, jx_up_self], skB (mT h) N q, hb, by rw [wI_at, jx_up_ne _ _ (by decide)]; exact p1, fun z => absurd z (nz 4 (by decide))⟩, fun z => absurd z (nz 4 (by decide))⟩
  refine je_loop (σ := Unit) (4) (fun k xx => [some (.ref 253), some (.int (nI n)), some (.int (nI (skB (mT h) N q))), some (.int (nI k))]) (fun k _ h' => h' = h1) (fun k xx h' hk e kk => ?_) (fun xx h' e => ?_) (0) () h1 (by omega) rfl
  · obtain rfl := e.symm
    refine je_iload3 (pc := 11) d12007_11 rfl ?_
    refine je_bipush (pc := 12) (v := 6) d12007_12 rfl ?_
    refine jn_icge (pc := 14) (a := (k)) (b := 6) 34 d12007_14 (by decide) (by omega) (by omega) (fun c14 => by exfalso; omega) (fun c14 => ?_)
    refine je_aload0 (pc := 17) d12007_17 rfl ?_
    refine je_iload3 (pc := 18) d12007_18 rfl ?_
    refine ju_calls (pc := 19) (as := [_]) d12007_19 jL_12_336 jM_Mo_stripWord rfl rfl (by exact Nat.le_of_ble_eq_true rfl) (t_Mo_stripWord (d + 6) (k := k) (by omega)) (fun r19 h19 q19 => ?_)
    obtain ⟨rfl, e19⟩ := q19
    obtain rfl := e19.symm
    refine ju_callv (pc := 22) (as := [_]) d12007_22 jL_12_240 jM_Mo_stood rfl (by decide) (sK253 H1) rfl (by exact Nat.le_of_ble_eq_true rfl) (t_Mo_stood (d + 2) (e := mSe (k)) (N := N) (p := skB (mT h) N q) (mSe_l _) H1 t1 p1 hN hb hB1) (fun r22 h22 q22 => ?_)
    obtain ⟨rfl, e22⟩ := q22
    obtain rfl := e22.symm
    rw [mSe_w (k) (by omega), eM]
    refine jb_ifne (pc := 25) 34 d12007_25 (by decide) (fun c25 => absurd c25 (kd_no (by rw [hkd]; exact hk))) (fun c25 => ?_)
    refine ju_incN (pc := 28) (v := nI ((k) + 1)) (lv' := [some _, some _, some _, some _]) d12007_28 rfl (nI_1 (k)) rfl ?_
    refine je_goto (pc := 31) 11 d12007_31 (by decide) ?_
    refine kk () _ rfl
  · obtain rfl := e.symm
    refine je_iload3 (pc := 11) d12007_11 rfl ?_
    refine je_bipush (pc := 12) (v := 6) d12007_12 rfl ?_
    refine jn_icge (pc := 14) (a := ((4))) (b := 6) 34 d12007_14 (by decide) (by omega) (by omega) (fun c14 => by exfalso; omega) (fun c14 => ?_)
    refine je_aload0 (pc := 17) d12007_17 rfl ?_
    refine je_iload3 (pc := 18) d12007_18 rfl ?_
    refine ju_calls (pc := 19) (as := [_]) d12007_19 jL_12_336 jM_Mo_stripWord rfl rfl (by exact Nat.le_of_ble_eq_true rfl) (t_Mo_stripWord (d + 6) (k := 4) (by omega)) (fun r19 h19 q19 => ?_)
    obtain ⟨rfl, e19⟩ := q19
    obtain rfl := e19.symm
    refine ju_callv (pc := 22) (as := [_]) d12007_22 jL_12_240 jM_Mo_stood rfl (by decide) (sK253 H1) rfl (by exact Nat.le_of_ble_eq_true rfl) (t_Mo_stood (d + 2) (e := mSe (4)) (N := N) (p := skB (mT h) N q) (mSe_l _) H1 t1 p1 hN hb hB1) (fun r22 h22 q22 => ?_)
    obtain ⟨rfl, e22⟩ := q22
    obtain rfl := e22.symm
    rw [mSe_w (4) (by omega), eM]
    refine jb_ifne (pc := 25) 34 d12007_25 (by decide) (fun c25 => ?_) (fun c25 => absurd c25 (fun z => z (by have := kd_is (T := mT h) (N := N) (b := skB (mT h) N q) (by rw [hkd]; decide); rw [hkd] at this; exact this)))
    exact K34
set_option maxHeartbeats 4000000 in
theorem t_Mo_stripClause_5 (d : Nat) {bc bs : Nat} {h : jx_H} {N n q : Nat} {S : MS} (H : jx_St h) (X : mtS h N (0, q)) (hn : n ≤ 40) (hN : N ≤ 400) (hB : ∀ j, j < N → (h.2.1 280 j).toInt8.toInt32 = h.2.1 280 j) (R : mSn h.2.1 S) (W : S.1.1 ≤ 10 ∧ S.1.2.1 ≤ 8 ∧ S.1.2.2.1 ≤ 8) (hkd : kdS (mT h) N (skB (mT h) N q) = 5) : jx_Tr (d + 8) bc bs 12007 [.ref 253, .int (nI n)] h (fun r h' => r = none ∧ fC mnA h h' ∧ (∀ j, j ≠ 28 → j ≠ 29 → h'.2.1 253 j = h.2.1 253 j) ∧ mtS h' N (clS (mT h) N n q S).1 ∧ ((clS (mT h) N n q S).1.1 = 0 → mSn h'.2.1 (clS (mT h) N n q S).2)) := by
  refine jx_tr jM_Mo_stripClause rfl rfl (lv := [some (.ref 253), some (.int (nI n)), none, none]) rfl ?_
  obtain ⟨t0, fl0, q', hq, p0, eq0⟩ := id X
  obtain rfl := (eq0 rfl).symm
  have fl0 : h.2.1 253 29 = 0 := fl0
  have hb : skB (mT h) N q ≤ N := sk_N hq
  have nz : ∀ c, c ≤ 4 → ¬ fltI (skB (mT h) N q) c = 0 := fun c hc => flt_nz (by omega) hc
  refine je_aload0 (pc := 0) d12007_0 rfl ?_
  refine ju_callv (pc := 1) (as := []) d12007_1 jL_12_237 jM_Mo_blanks rfl (by decide) (sK253 H) rfl (by exact Nat.le_of_ble_eq_true rfl) (t_Mo_blanks (d + 5) (N := N) (p := q) H t0 p0 hN (by omega)) (fun r1 h1 q1 => ?_)
  obtain ⟨rfl, f1, g1, p1⟩ := q1
  have H1 := f1.St H
  have eM : mT h1 = mT h := mT_e f1.mn
  have t1 : h1.2.1 253 27 = nI N := (g1 27 (by decide)).trans t0
  have fl1 : h1.2.1 253 29 = 0 := (g1 29 (by decide)).trans fl0
  have R1 := R.of (fun b b1 b2 => f1.2 b (by omega))
  have hB1 : ∀ j, j < N → (h1.2.1 280 j).toInt8.toInt32 = h1.2.1 280 j := fun j hj => by rw [f1.2 280 (by decide)]; exact hB j hj
  have g1b : ∀ j, j ≠ 28 → j ≠ 29 → h1.2.1 253 j = h.2.1 253 j := fun j a1 _ => g1 j a1
  refine je_aload0 (pc := 4) d12007_4 rfl ?_
  refine ju_geti (pc := 5) d12007_5 jF_12_217 rfl (sK253 H1) ?_
  refine ju_eqi (v := nI (skB (mT h) N q)) p1 ?_
  refine ju_istore2 (pc := 8) (lv' := [some _, some _, some _, none]) d12007_8 rfl rfl ?_
  refine je_iconst (pc := 9) (v := 0) d12007_9 rfl ?_
  refine ju_istore3 (pc := 10) (lv' := [some _, some _, some _, some _]) d12007_10 rfl rfl ?_
  have K34 : jx_Ev (d + 8) bc bs 12007 34 [some (.ref 253), some (.int (nI n)), some (.int (nI (skB (mT h) N q))), some (.int (nI 5))] [] h1 (fun r h' => r = none ∧ fC mnA h h' ∧ (∀ j, j ≠ 28 → j ≠ 29 → h'.2.1 253 j = h.2.1 253 j) ∧ mtS h' N (clS (mT h) N n q S).1 ∧ ((clS (mT h) N n q S).1.1 = 0 → mSn h'.2.1 (clS (mT h) N n q S).2)) := by
    refine je_iload3 (pc := 34) d12007_34 rfl ?_
    refine je_bipush (pc := 35) (v := 6) d12007_35 rfl ?_
    refine jn_icne (pc := 37) (a := 5) (b := 6) 47 d12007_37 (by decide) (by omega) (by omega) (fun c37 => ?_) (fun c37 => by exfalso; omega)
    refine je_aload0 (pc := 47) d12007_47 rfl ?_
    refine je_iload3 (pc := 48) d12007_48 rfl ?_
    refine je_iload1 (pc := 49) d12007_49 rfl ?_
    refine ju_callv (pc := 50) (as := [_, _]) d12007_50 jL_12_339 jM_Mo_isFull rfl (by decide) (sK253 H1) rfl (by exact Nat.le_of_ble_eq_true rfl) (t_Mo_isFull_5 (d + 6) (n := n) (S := S) H1 R1 hn W) (fun r50 h50 q50 => ?_)
    obtain ⟨rfl, e50⟩ := q50
    obtain rfl := e50.symm
    refine jb_ifeq (pc := 53) 63 d12007_53 (by decide) (fun c53 => ?_) (fun c53 => ?_)
    · have fl := c53
      refine je_aload0 (pc := 63) d12007_63 rfl ?_
      refine je_dup (pc := 64) d12007_64 rfl ?_
      refine ju_geti (pc := 65) d12007_65 jF_12_217 rfl (sK253 H1) ?_
      refine ju_eqi (v := nI (skB (mT h) N q)) p1 ?_
      refine je_iload3 (pc := 68) d12007_68 rfl ?_
      refine ju_calls (pc := 69) (as := [_]) d12007_69 jL_12_336 jM_Mo_stripWord rfl rfl (by exact Nat.le_of_ble_eq_true rfl) (t_Mo_stripWord (d + 6) (k := 5) (by decide)) (fun r69 h69 q69 => ?_)
      obtain ⟨rfl, e69⟩ := q69
      obtain rfl := e69.symm
      refine je_callS (pc := 72) (as := []) d12007_72 jL_12_228 jM_Str_length rfl rfl (sq_q (mSe_l 5)) rfl (Nat.le_of_ble_eq_true rfl) (t_Str_length (d + 5) (sq_q (mSe_l 5))) (fun r72 h72 q72 => ?_)
      obtain ⟨rfl, e72⟩ := q72
      obtain rfl := e72.symm
      refine je_iadd (pc := 75) d12007_75 ?_
      refine ju_eqi (v := nI ((skB (mT h) N q) + ((wdO (mSe 5)).length))) (nI_add (skB (mT h) N q) ((wdO (mSe 5)).length)) ?_
      refine ju_puti (pc := 76) d12007_76 jF_12_217 rfl (sK253 H1) ?_
      have wl := wd_tk (kd_is (T := mT h) (N := N) (b := skB (mT h) N q) (by rw [hkd]; decide))
      rw [hkd, ← mSe_w 5 (by decide)] at wl
      have xs : mtS (jx_wI h1 253 28 (nI (skB (mT h) N q + (wdO (mSe 5)).length))) N (0, tkE (mT h) N (skB (mT h) N q)) := ⟨by rw [wI_at, jx_up_ne _ _ (by decide)]; exact t1, by rw [wI_at, jx_up_ne _ _ (by decide)]; exact fl1, _, (tk_N hb).2, by rw [wI_at, jx_up_self, wl], fun _ => rfl⟩
      refine je_aload0 (pc := 79) d12007_79 rfl ?_
      refine je_iload3 (pc := 80) d12007_80 rfl ?_
      refine ju_callv (pc := 81) (as := [_]) d12007_81 jL_12_342 jM_Mo_stripPart rfl (by decide) (sK253 H1.wI) rfl (by exact Nat.le_of_ble_eq_true rfl) (t_Mo_stripPart_5 d (N := N) (s := (0, tkE (mT h) N (skB (mT h) N q))) (S := S) H1.wI xs (tk_N hb).2 hN (R1.of (fun b b1 b2 => wI_ne _ _ _ (by omega))) W (by have := (fl_n fl).2.2.2; omega)) (fun r81 h81 q81 => ?_)
      obtain ⟨rfl, f2, g2, x2, y2⟩ := q81
      rw [mT_e (f1.mn.wI (Or.inl rfl))] at x2 y2
      refine je_ret (pc := 84) d12007_84 rfl ?_
      rw [cl_o (by rw [hkd]; decide) (by rw [hkd]; exact fl), hkd]
      exact ⟨rfl, (f1.mn.wI (Or.inl rfl)).tr f2, (fun j a1 a2 => (g2 j a1 a2).trans (by rw [wI_at, jx_up_ne _ _ a1]; exact g1 j a1)), x2, y2⟩
    · refine je_aload0 (pc := 56) d12007_56 rfl ?_
      refine je_iconst (pc := 57) (v := 4) d12007_57 rfl ?_
      refine je_iload2 (pc := 58) d12007_58 rfl ?_
      refine ju_callv (pc := 59) (as := [_, _]) d12007_59 jL_12_253 jM_Mo_fails rfl (by decide) (sK253 H1) rfl (by exact Nat.le_of_ble_eq_true rfl) (t_Mo_fails (d + 6) (q := skB (mT h) N q) (c := 4) H1 (by omega) (by decide)) (fun r59 h59 q59 => ?_)
      obtain ⟨rfl, eb⟩ := q59
      rw [if_pos fl1] at eb
      obtain rfl := eb.symm
      refine je_ret (pc := 62) d12007_62 rfl ?_
      rw [cl_f (by rw [hkd]; decide) (by rw [hkd]; exact c53)]
      exact ⟨rfl, f1.mn.wI (Or.inl rfl), (fun j a1 a2 => by rw [wI_at, jx_up_ne _ _ a2]; exact g1 j a1), ⟨by rw [wI_at, jx_up_ne _ _ (by decide)]; exact t1, by rw [wI_at, jx_up_self], skB (mT h) N q, hb, by rw [wI_at, jx_up_ne _ _ (by decide)]; exact p1, fun z => absurd z (nz 4 (by decide))⟩, fun z => absurd z (nz 4 (by decide))⟩
  refine je_loop (σ := Unit) (5) (fun k xx => [some (.ref 253), some (.int (nI n)), some (.int (nI (skB (mT h) N q))), some (.int (nI k))]) (fun k _ h' => h' = h1) (fun k xx h' hk e kk => ?_) (fun xx h' e => ?_) (0) () h1 (by omega) rfl
  · obtain rfl := e.symm
    refine je_iload3 (pc := 11) d12007_11 rfl ?_
    refine je_bipush (pc := 12) (v := 6) d12007_12 rfl ?_
    refine jn_icge (pc := 14) (a := (k)) (b := 6) 34 d12007_14 (by decide) (by omega) (by omega) (fun c14 => by exfalso; omega) (fun c14 => ?_)
    refine je_aload0 (pc := 17) d12007_17 rfl ?_
    refine je_iload3 (pc := 18) d12007_18 rfl ?_
    refine ju_calls (pc := 19) (as := [_]) d12007_19 jL_12_336 jM_Mo_stripWord rfl rfl (by exact Nat.le_of_ble_eq_true rfl) (t_Mo_stripWord (d + 6) (k := k) (by omega)) (fun r19 h19 q19 => ?_)
    obtain ⟨rfl, e19⟩ := q19
    obtain rfl := e19.symm
    refine ju_callv (pc := 22) (as := [_]) d12007_22 jL_12_240 jM_Mo_stood rfl (by decide) (sK253 H1) rfl (by exact Nat.le_of_ble_eq_true rfl) (t_Mo_stood (d + 2) (e := mSe (k)) (N := N) (p := skB (mT h) N q) (mSe_l _) H1 t1 p1 hN hb hB1) (fun r22 h22 q22 => ?_)
    obtain ⟨rfl, e22⟩ := q22
    obtain rfl := e22.symm
    rw [mSe_w (k) (by omega), eM]
    refine jb_ifne (pc := 25) 34 d12007_25 (by decide) (fun c25 => absurd c25 (kd_no (by rw [hkd]; exact hk))) (fun c25 => ?_)
    refine ju_incN (pc := 28) (v := nI ((k) + 1)) (lv' := [some _, some _, some _, some _]) d12007_28 rfl (nI_1 (k)) rfl ?_
    refine je_goto (pc := 31) 11 d12007_31 (by decide) ?_
    refine kk () _ rfl
  · obtain rfl := e.symm
    refine je_iload3 (pc := 11) d12007_11 rfl ?_
    refine je_bipush (pc := 12) (v := 6) d12007_12 rfl ?_
    refine jn_icge (pc := 14) (a := ((5))) (b := 6) 34 d12007_14 (by decide) (by omega) (by omega) (fun c14 => by exfalso; omega) (fun c14 => ?_)
    refine je_aload0 (pc := 17) d12007_17 rfl ?_
    refine je_iload3 (pc := 18) d12007_18 rfl ?_
    refine ju_calls (pc := 19) (as := [_]) d12007_19 jL_12_336 jM_Mo_stripWord rfl rfl (by exact Nat.le_of_ble_eq_true rfl) (t_Mo_stripWord (d + 6) (k := 5) (by omega)) (fun r19 h19 q19 => ?_)
    obtain ⟨rfl, e19⟩ := q19
    obtain rfl := e19.symm
    refine ju_callv (pc := 22) (as := [_]) d12007_22 jL_12_240 jM_Mo_stood rfl (by decide) (sK253 H1) rfl (by exact Nat.le_of_ble_eq_true rfl) (t_Mo_stood (d + 2) (e := mSe (5)) (N := N) (p := skB (mT h) N q) (mSe_l _) H1 t1 p1 hN hb hB1) (fun r22 h22 q22 => ?_)
    obtain ⟨rfl, e22⟩ := q22
    obtain rfl := e22.symm
    rw [mSe_w (5) (by omega), eM]
    refine jb_ifne (pc := 25) 34 d12007_25 (by decide) (fun c25 => ?_) (fun c25 => absurd c25 (fun z => z (by have := kd_is (T := mT h) (N := N) (b := skB (mT h) N q) (by rw [hkd]; decide); rw [hkd] at this; exact this)))
    exact K34
set_option maxHeartbeats 4000000 in
theorem t_Mo_stripClause_6 (d : Nat) {bc bs : Nat} {h : jx_H} {N n q : Nat} {S : MS} (H : jx_St h) (X : mtS h N (0, q)) (hn : n ≤ 40) (hN : N ≤ 400) (hB : ∀ j, j < N → (h.2.1 280 j).toInt8.toInt32 = h.2.1 280 j) (R : mSn h.2.1 S) (W : S.1.1 ≤ 10 ∧ S.1.2.1 ≤ 8 ∧ S.1.2.2.1 ≤ 8) (hkd : kdS (mT h) N (skB (mT h) N q) = 6) : jx_Tr (d + 8) bc bs 12007 [.ref 253, .int (nI n)] h (fun r h' => r = none ∧ fC mnA h h' ∧ (∀ j, j ≠ 28 → j ≠ 29 → h'.2.1 253 j = h.2.1 253 j) ∧ mtS h' N (clS (mT h) N n q S).1 ∧ ((clS (mT h) N n q S).1.1 = 0 → mSn h'.2.1 (clS (mT h) N n q S).2)) := by
  refine jx_tr jM_Mo_stripClause rfl rfl (lv := [some (.ref 253), some (.int (nI n)), none, none]) rfl ?_
  obtain ⟨t0, fl0, q', hq, p0, eq0⟩ := id X
  obtain rfl := (eq0 rfl).symm
  have fl0 : h.2.1 253 29 = 0 := fl0
  have hb : skB (mT h) N q ≤ N := sk_N hq
  have nz : ∀ c, c ≤ 4 → ¬ fltI (skB (mT h) N q) c = 0 := fun c hc => flt_nz (by omega) hc
  refine je_aload0 (pc := 0) d12007_0 rfl ?_
  refine ju_callv (pc := 1) (as := []) d12007_1 jL_12_237 jM_Mo_blanks rfl (by decide) (sK253 H) rfl (by exact Nat.le_of_ble_eq_true rfl) (t_Mo_blanks (d + 5) (N := N) (p := q) H t0 p0 hN (by omega)) (fun r1 h1 q1 => ?_)
  obtain ⟨rfl, f1, g1, p1⟩ := q1
  have H1 := f1.St H
  have eM : mT h1 = mT h := mT_e f1.mn
  have t1 : h1.2.1 253 27 = nI N := (g1 27 (by decide)).trans t0
  have fl1 : h1.2.1 253 29 = 0 := (g1 29 (by decide)).trans fl0
  have R1 := R.of (fun b b1 b2 => f1.2 b (by omega))
  have hB1 : ∀ j, j < N → (h1.2.1 280 j).toInt8.toInt32 = h1.2.1 280 j := fun j hj => by rw [f1.2 280 (by decide)]; exact hB j hj
  have g1b : ∀ j, j ≠ 28 → j ≠ 29 → h1.2.1 253 j = h.2.1 253 j := fun j a1 _ => g1 j a1
  refine je_aload0 (pc := 4) d12007_4 rfl ?_
  refine ju_geti (pc := 5) d12007_5 jF_12_217 rfl (sK253 H1) ?_
  refine ju_eqi (v := nI (skB (mT h) N q)) p1 ?_
  refine ju_istore2 (pc := 8) (lv' := [some _, some _, some _, none]) d12007_8 rfl rfl ?_
  refine je_iconst (pc := 9) (v := 0) d12007_9 rfl ?_
  refine ju_istore3 (pc := 10) (lv' := [some _, some _, some _, some _]) d12007_10 rfl rfl ?_
  have K34 : jx_Ev (d + 8) bc bs 12007 34 [some (.ref 253), some (.int (nI n)), some (.int (nI (skB (mT h) N q))), some (.int (nI 6))] [] h1 (fun r h' => r = none ∧ fC mnA h h' ∧ (∀ j, j ≠ 28 → j ≠ 29 → h'.2.1 253 j = h.2.1 253 j) ∧ mtS h' N (clS (mT h) N n q S).1 ∧ ((clS (mT h) N n q S).1.1 = 0 → mSn h'.2.1 (clS (mT h) N n q S).2)) := by
    refine je_iload3 (pc := 34) d12007_34 rfl ?_
    refine je_bipush (pc := 35) (v := 6) d12007_35 rfl ?_
    refine jn_icne (pc := 37) (a := 6) (b := 6) 47 d12007_37 (by decide) (by omega) (by omega) (fun c37 => by exfalso; omega) (fun c37 => ?_)
    refine je_aload0 (pc := 40) d12007_40 rfl ?_
    refine je_iconst (pc := 41) (v := 0) d12007_41 rfl ?_
    refine je_iload2 (pc := 42) d12007_42 rfl ?_
    refine ju_callv (pc := 43) (as := [_, _]) d12007_43 jL_12_253 jM_Mo_fails rfl (by decide) (sK253 H1) rfl (by exact Nat.le_of_ble_eq_true rfl) (t_Mo_fails (d + 6) (q := skB (mT h) N q) (c := 0) H1 (by omega) (by decide)) (fun r43 h43 q43 => ?_)
    obtain ⟨rfl, eb⟩ := q43
    rw [if_pos fl1] at eb
    obtain rfl := eb.symm
    refine je_ret (pc := 46) d12007_46 rfl ?_
    rw [cl_6 hkd]
    exact ⟨rfl, f1.mn.wI (Or.inl rfl), (fun j a1 a2 => by rw [wI_at, jx_up_ne _ _ a2]; exact g1 j a1), ⟨by rw [wI_at, jx_up_ne _ _ (by decide)]; exact t1, by rw [wI_at, jx_up_self], skB (mT h) N q, hb, by rw [wI_at, jx_up_ne _ _ (by decide)]; exact p1, fun z => absurd z (nz 0 (by decide))⟩, fun z => absurd z (nz 0 (by decide))⟩
  refine je_loop (σ := Unit) (6) (fun k xx => [some (.ref 253), some (.int (nI n)), some (.int (nI (skB (mT h) N q))), some (.int (nI k))]) (fun k _ h' => h' = h1) (fun k xx h' hk e kk => ?_) (fun xx h' e => ?_) (0) () h1 (by omega) rfl
  · obtain rfl := e.symm
    refine je_iload3 (pc := 11) d12007_11 rfl ?_
    refine je_bipush (pc := 12) (v := 6) d12007_12 rfl ?_
    refine jn_icge (pc := 14) (a := (k)) (b := 6) 34 d12007_14 (by decide) (by omega) (by omega) (fun c14 => by exfalso; omega) (fun c14 => ?_)
    refine je_aload0 (pc := 17) d12007_17 rfl ?_
    refine je_iload3 (pc := 18) d12007_18 rfl ?_
    refine ju_calls (pc := 19) (as := [_]) d12007_19 jL_12_336 jM_Mo_stripWord rfl rfl (by exact Nat.le_of_ble_eq_true rfl) (t_Mo_stripWord (d + 6) (k := k) (by omega)) (fun r19 h19 q19 => ?_)
    obtain ⟨rfl, e19⟩ := q19
    obtain rfl := e19.symm
    refine ju_callv (pc := 22) (as := [_]) d12007_22 jL_12_240 jM_Mo_stood rfl (by decide) (sK253 H1) rfl (by exact Nat.le_of_ble_eq_true rfl) (t_Mo_stood (d + 2) (e := mSe (k)) (N := N) (p := skB (mT h) N q) (mSe_l _) H1 t1 p1 hN hb hB1) (fun r22 h22 q22 => ?_)
    obtain ⟨rfl, e22⟩ := q22
    obtain rfl := e22.symm
    rw [mSe_w (k) (by omega), eM]
    refine jb_ifne (pc := 25) 34 d12007_25 (by decide) (fun c25 => absurd c25 (kd_no (by rw [hkd]; exact hk))) (fun c25 => ?_)
    refine ju_incN (pc := 28) (v := nI ((k) + 1)) (lv' := [some _, some _, some _, some _]) d12007_28 rfl (nI_1 (k)) rfl ?_
    refine je_goto (pc := 31) 11 d12007_31 (by decide) ?_
    refine kk () _ rfl
  · obtain rfl := e.symm
    refine je_iload3 (pc := 11) d12007_11 rfl ?_
    refine je_bipush (pc := 12) (v := 6) d12007_12 rfl ?_
    refine jn_icge (pc := 14) (a := ((6))) (b := 6) 34 d12007_14 (by decide) (by omega) (by omega) (fun c14 => ?_) (fun c14 => by exfalso; omega)
    exact K34
theorem t_Mo_stripClause (d : Nat) {bc bs : Nat} {h : jx_H} {N n q : Nat} {S : MS} (H : jx_St h) (X : mtS h N (0, q)) (hn : n ≤ 40) (hN : N ≤ 400) (hB : ∀ j, j < N → (h.2.1 280 j).toInt8.toInt32 = h.2.1 280 j) (R : mSn h.2.1 S) (W : S.1.1 ≤ 10 ∧ S.1.2.1 ≤ 8 ∧ S.1.2.2.1 ≤ 8) : jx_Tr (d + 8) bc bs 12007 [.ref 253, .int (nI n)] h (fun r h' => r = none ∧ fC mnA h h' ∧ (∀ j, j ≠ 28 → j ≠ 29 → h'.2.1 253 j = h.2.1 253 j) ∧ mtS h' N (clS (mT h) N n q S).1 ∧ ((clS (mT h) N n q S).1.1 = 0 → mSn h'.2.1 (clS (mT h) N n q S).2)) := by
  have kl := kd_le (T := mT h) (N := N) (b := skB (mT h) N q)
  match hk : kdS (mT h) N (skB (mT h) N q), kl with
  | 0, _ => exact t_Mo_stripClause_0 d H X hn hN hB R W hk
  | 1, _ => exact t_Mo_stripClause_1 d H X hn hN hB R W hk
  | 2, _ => exact t_Mo_stripClause_2 d H X hn hN hB R W hk
  | 3, _ => exact t_Mo_stripClause_3 d H X hn hN hB R W hk
  | 4, _ => exact t_Mo_stripClause_4 d H X hn hN hB R W hk
  | 5, _ => exact t_Mo_stripClause_5 d H X hn hN hB R W hk
  | 6, _ => exact t_Mo_stripClause_6 d H X hn hN hB R W hk
  | k + 7, kl => exact absurd kl (by omega)
