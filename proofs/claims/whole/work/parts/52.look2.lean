/-! ahead, crosses -/
theorem fC.rWk {h h' : jx_H} {X : MW} (f : fC (fun b => b = 65 ∨ 67 ≤ b ∧ b ≤ 124) h h') (r : rW h 26 X) : rW h' 26 X := r.of (fun b hb => f.2 b (fun z => by unfold sRow at hb; omega)) (fun s _ hs => f.Sp hs) (fun b h1 h2 => f.2 b (by omega)) (by rw [f.1.2])
theorem jo_look {jc jm : Nat} {as : List Value} (f : ∀ n h t nr rs X Y, n < 512 → InvX n h t nr rs X Y → ∃ v : Int32, jx_Tr 199 13 206 jc (.ref 1 :: as) h (fun r h1 => r = some (.int v) ∧ fC (fun b => b = 65 ∨ 67 ≤ b ∧ b ≤ 124) h h1) ∧
    ∀ h1, jx_St h1 → (∀ b, 253 ≤ b → b ≤ 303 → h1.2.1 b = h.2.1 b) → mW (gN h1) X → jx_Tr 199 0 0 jm (.ref 253 :: as) h1 (fun r h2 => r = some (.int v) ∧ fM h1 h2 ∧ mW (gN h2) X)) : jo Inv jc jm as := by
  refine jo_st (fun n h t nr rs X Y hn q => ?_)
  obtain ⟨Q1, Q2, Q3, Q4, Q5, Q6, Q7, Q8, Q9⟩ := id q
  obtain ⟨v, c, m⟩ := f n h t nr rs X Y hn q
  refine ⟨v, X, h, q.B, ⟨rfl, rfl⟩, Q7.up (Nat.le_succ n) (Nat.le_refl nr), Q8, c.mono (fun r h1 e => ?_), m⟩
  obtain ⟨rfl, e⟩ := e
  exact ⟨rfl, e.mo (fun b hb => by unfold cRow kRow sRow; omega), e.rWk Q5⟩
theorem z_of {x : Int32} {n : Nat} (h : ¬ x < 0 ∧ ¬ nI n < x) (hn : n < 2 ^ 31) : ∃ j, j ≤ n ∧ x = nI j := by
  obtain ⟨j, hj, rfl⟩ := nI_of h.1
  exact ⟨j, Nat.le_of_not_lt (fun z => h.2 (nI_lt z hj)), rfl⟩
set_option maxHeartbeats 2000000 in
theorem t_Db_ahead_n (d : Nat) {bc bs : Nat} {h : jx_H} {s : Nat} (H : jx_St h) (hr : h.2.2.2 26 0 = some s) (P : jx_Sp h s) (x y z : Int32) (G : ¬ ((¬ x < 0 ∧ x < h.2.1 s 0) ∧ ¬ y < 0 ∧ ¬ 100 < y ∧ ¬ z < 0 ∧ ¬ 2 < z)) : jx_Tr (d + 6) bc bs 25 [.ref 1, .int x, .int y, .int z] h (fun r h' => r = some (.int (-100)) ∧ h' = h) := by
  refine jx_tr jM_Db_ahead rfl rfl (lv := [some (.ref 1), some (.int x), some (.int y), some (.int z), none]) rfl ?_
  refine je_aload0 (pc := 0) d25_0 rfl ?_
  refine je_iload1 (pc := 1) d25_1 rfl ?_
  refine ju_callv (pc := 2) (as := [_]) d25_2 jL_0_120 jM_Db_isMile rfl (by decide) (sK1 H) rfl (by exact Nat.le_of_ble_eq_true rfl) (t_Db_isMile (d + 4) H hr P _) (fun r2 h2 q2 => ?_)
  obtain ⟨rfl, e2⟩ := q2
  obtain rfl := e2.symm
  refine jb_ifeq (pc := 5) 27 d25_5 (by decide) (fun c5 => ?_) (fun c5 => ?_)
  · refine je_bipush (pc := 27) (v := -100) d25_27 rfl ?_
    refine je_iret (pc := 29) d25_29 rfl ?_
    exact ⟨rfl, rfl⟩
  · refine je_iload2 (pc := 8) d25_8 rfl ?_
    refine je_iflt (pc := 9) 27 d25_9 (by decide) (fun c9 => ?_) (fun c9 => ?_)
    · refine je_bipush (pc := 27) (v := -100) d25_27 rfl ?_
      refine je_iret (pc := 29) d25_29 rfl ?_
      exact ⟨rfl, rfl⟩
    · refine je_iload2 (pc := 12) d25_12 rfl ?_
      refine je_bipush (pc := 13) (v := 100) d25_13 rfl ?_
      refine je_icgt (pc := 15) 27 d25_15 (by decide) (fun c15 => ?_) (fun c15 => ?_)
      · refine je_bipush (pc := 27) (v := -100) d25_27 rfl ?_
        refine je_iret (pc := 29) d25_29 rfl ?_
        exact ⟨rfl, rfl⟩
      · refine je_iload3 (pc := 18) d25_18 rfl ?_
        refine je_iflt (pc := 19) 27 d25_19 (by decide) (fun c19 => ?_) (fun c19 => ?_)
        · refine je_bipush (pc := 27) (v := -100) d25_27 rfl ?_
          refine je_iret (pc := 29) d25_29 rfl ?_
          exact ⟨rfl, rfl⟩
        · refine je_iload3 (pc := 22) d25_22 rfl ?_
          refine je_iconst (pc := 23) (v := 2) d25_23 rfl ?_
          refine ju_icle (pc := 24) 30 d25_24 (by decide) (fun c24 => absurd c24 (fun q => G ⟨c5, c9, c15, c19, q⟩)) (fun c24 => ?_)
          refine je_bipush (pc := 27) (v := -100) d25_27 rfl ?_
          refine je_iret (pc := 29) d25_29 rfl ?_
          exact ⟨rfl, rfl⟩
set_option maxHeartbeats 2000000 in
theorem t_Db_ahead (d : Nat) {bc bs : Nat} {h : jx_H} {S : MS} {R : Option MR} {L : ML} {nn : Nat} (H : jx_St h) (C : cLaw h S R) (wS : wfS S) (h0 : 0 < S.1.1) (hL : rL h.2.1 40 L) (hN : L.2.2.2.2.2 = nI nn) {s : Nat} (hr : h.2.2.2 26 0 = some s) (P : jx_Sp h s) (hsA : sA s) (hS : rS h.2.1 s S) {j n : Nat} (z : Int32) (hj : j < S.1.1) (hmi : S.1.1 ≤ 10) (hn : n ≤ 100) (hnn : nn + n < 998) (hz : ¬ z < 0 ∧ ¬ 2 < z) : jx_Tr (d + 6) bc bs 25 [.ref 1, .int (nI j), .int (nI n), .int z] h (fun r h' => r = some (.int (if z = 0 then (nitF S R n L).1 j else if z = 1 then (nitF S R n L).2.1 j else nI (onN S (nitF S R n L).1 1 S.1.2.1))) ∧ fC (fun b => b = 65 ∨ 68 ≤ b ∧ b ≤ 72) h h') := by
  refine jx_tr jM_Db_ahead rfl rfl (lv := [some (.ref 1), some (.int (nI j)), some (.int (nI n)), some (.int z), none]) rfl ?_
  have w8 := wS.2.1
  refine je_aload0 (pc := 0) d25_0 rfl ?_
  refine je_iload1 (pc := 1) d25_1 rfl ?_
  refine ju_callv (pc := 2) (as := [_]) d25_2 jL_0_120 jM_Db_isMile rfl (by decide) (sK1 H) rfl (by exact Nat.le_of_ble_eq_true rfl) (t_Db_isMile (d + 4) H hr P _) (fun r2 h2 q2 => ?_)
  obtain ⟨rfl, e2⟩ := q2
  obtain rfl := e2.symm
  refine jb_ifeq (pc := 5) 27 d25_5 (by decide) (fun c5 => absurd c5 (fun q => q (by rw [hS.1.1]; exact isM_nI hj (by omega)))) (fun c5 => ?_)
  refine je_iload2 (pc := 8) d25_8 rfl ?_
  refine jn_iflt (pc := 9) (a := (n)) 27 d25_9 (by decide) (by omega) (fun c9 => by exfalso; omega) (fun c9 => ?_)
  refine je_iload2 (pc := 12) d25_12 rfl ?_
  refine je_bipush (pc := 13) (v := 100) d25_13 rfl ?_
  refine jn_icgt (pc := 15) (a := (n)) (b := 100) 27 d25_15 (by decide) (by omega) (by omega) (fun c15 => by exfalso; omega) (fun c15 => ?_)
  refine je_iload3 (pc := 18) d25_18 rfl ?_
  refine je_iflt (pc := 19) 27 d25_19 (by decide) (fun c19 => absurd c19 hz.1) (fun c19 => ?_)
  refine je_iload3 (pc := 22) d25_22 rfl ?_
  refine je_iconst (pc := 23) (v := 2) d25_23 rfl ?_
  refine ju_icle (pc := 24) 30 d25_24 (by decide) (fun c24 => ?_) (fun c24 => absurd c24 hz.2)
  refine je_aload0 (pc := 30) d25_30 rfl ?_
  refine ju_getr (pc := 31) (b := 67) d25_31 jF_0_65 rfl (sK1 H) (sR1_9 H) ?_
  refine je_aload0 (pc := 34) d25_34 rfl ?_
  refine ju_getr (pc := 35) (b := 26) d25_35 jF_0_41 rfl (sK1 H) (sR1_5 H) ?_
  refine ju_getr (pc := 38) (b := 40) d25_38 jF_0_124 rfl (sK26 H) (sR26_1 H) ?_
  refine je_iload2 (pc := 41) d25_41 rfl ?_
  refine ju_callv (pc := 42) (as := [_, _]) d25_42 jL_0_226 jM_Ol_landAfter rfl (by decide) (sK67 H) rfl (by exact Nat.le_of_ble_eq_true rfl) (t_Ol_landAfter d H C wS h0 hL hN hnn) (fun r42 h42 q42 => ?_)
  obtain ⟨rfl, f1, f2⟩ := q42
  have H2 := f1.St H
  have P2 := f1.Sp P
  have hr2 := f1.rr hr
  have S3 : rS h42.2.1 s S := hS.of (fun b h1 h2 => f1.2 b (fun z => by unfold sA at hsA; omega))
  refine ju_astore (pc := 45) (lv' := [some _, some _, some _, some _, some _]) d25_45 rfl rfl ?_
  refine je_iload3 (pc := 47) d25_47 rfl ?_
  by_cases s48_0 : z = 0
  · refine je_lookup (pc := 48) 76 d25_48 (by decide) (off := 28) (by rw [s48_0]; decide) (by decide) ?_
    refine je_aload (pc := 76) d25_76 rfl ?_
    refine ju_getr (pc := 78) (b := 69) d25_78 jF_0_128 rfl (sK68 H2) (sR68_0 H2) ?_
    refine je_iload1 (pc := 81) d25_81 rfl ?_
    refine ju_iald (pc := 82) (jn := (j)) d25_82 (sK69 H2) (vp_in_nI (by omega) (by decide)) (nI_clamp (by omega)) ?_
    refine ju_eqi (v := (nitF S R n L).1 j) (f2.1 j (by omega)) ?_
    refine je_iret (pc := 83) d25_83 rfl ?_
    exact ⟨by rw [if_pos s48_0], f1⟩
  by_cases s48_1 : z = 1
  · refine je_lookup (pc := 48) 84 d25_48 (by decide) (off := 36) (by rw [s48_1]; decide) (by decide) ?_
    refine je_aload (pc := 84) d25_84 rfl ?_
    refine ju_getr (pc := 86) (b := 70) d25_86 jF_0_134 rfl (sK68 H2) (sR68_1 H2) ?_
    refine je_iload1 (pc := 89) d25_89 rfl ?_
    refine ju_iald (pc := 90) (jn := (j)) d25_90 (sK70 H2) (vp_in_nI (by omega) (by decide)) (nI_clamp (by omega)) ?_
    refine ju_eqi (v := (nitF S R n L).2.1 j) (f2.2.1 j (by omega)) ?_
    refine je_iret (pc := 91) d25_91 rfl ?_
    exact ⟨by rw [if_neg s48_0, if_pos s48_1], f1⟩
  refine je_lookup (pc := 48) 92 d25_48 (by decide) (off := 44) (by show lookupswitch.offset [(Int32.toInt 0, 28), (Int32.toInt 1, 36)] 44 (Int32.toInt z) = 44; rw [lv_osw s48_0 rfl]; rw [lv_osw s48_1 rfl]; rfl) (by decide) ?_
  refine je_aload0 (pc := 92) d25_92 rfl ?_
  refine ju_getr (pc := 93) (b := 26) d25_93 jF_0_41 rfl (sK1 H2) (sR1_5 H2) ?_
  refine ju_getr (pc := 96) (b := s) d25_96 jF_0_143 rfl (sK26 H2) hr2 ?_
  refine je_aload (pc := 99) d25_99 rfl ?_
  refine ju_callv (pc := 101) (as := [_]) d25_101 jL_0_194 jM_St_sidesOf rfl (by decide) P2.1.1 rfl (by exact Nat.le_of_ble_eq_true rfl) (t_St_sidesOf (d + 4) (S := S) (l := (nitF S R n L).1) P2 (sL68 H2) S3 wS f2.1) (fun r101 h101 q101 => ?_)
  obtain ⟨rfl, e101⟩ := q101
  obtain rfl := e101.symm
  refine ju_calls (pc := 104) (as := [_]) d25_104 jL_0_230 jM_Db_eastIn rfl rfl (by exact Nat.le_of_ble_eq_true rfl) (t_Db_eastIn (d + 4) _) (fun r104 h104 q104 => ?_)
  obtain ⟨rfl, e104⟩ := q104
  obtain rfl := e104.symm
  refine ju_eqi (v := nI (onN S (nitF S R n L).1 1 S.1.2.1)) (east_ok S _ w8) ?_
  refine je_iret (pc := 107) d25_107 rfl ?_
  exact ⟨by rw [if_neg s48_0, if_neg s48_1], f1⟩
set_option maxHeartbeats 2000000 in
theorem t_Mo_ahead_n (d : Nat) {bc bs : Nat} {h : jx_H} {mi : Nat} (H : jx_St h) (hm : h.2.1 254 0 = nI mi) (hmi : mi ≤ 10) (x y z : Int32) (G : ¬ (isM x mi ∧ (¬ y < 0 ∧ ¬ 100 < y) ∧ (¬ z < 0 ∧ ¬ 2 < z))) : jx_Tr (d + 9) bc bs 12077 [.ref 253, .int x, .int y, .int z] h (fun r h' => r = some (.int (-100)) ∧ h' = h) := by
  refine jx_tr jM_Mo_ahead rfl rfl (lv := [some (.ref 253), some (.int x), some (.int y), some (.int z), none]) rfl ?_
  refine je_aload0 (pc := 0) d12077_0 rfl ?_
  refine je_iload1 (pc := 1) d12077_1 rfl ?_
  refine ju_callv (pc := 2) (as := [_]) d12077_2 jL_12_178 jM_Mo_isMile rfl (by decide) (sK253 H) rfl (by exact Nat.le_of_ble_eq_true rfl) (t_Mo_isMile (d + 6) H _ hm (by omega)) (fun r2 h2 q2 => ?_)
  obtain ⟨rfl, e2⟩ := q2
  obtain rfl := e2.symm
  refine jb_ifeq (pc := 5) 32 d12077_5 (by decide) (fun c5 => ?_) (fun c5 => ?_)
  · refine je_bipush (pc := 32) (v := -100) d12077_32 rfl ?_
    refine je_iret (pc := 34) d12077_34 rfl ?_
    exact ⟨rfl, rfl⟩
  · refine je_iload2 (pc := 8) d12077_8 rfl ?_
    refine je_i2l (pc := 9) d12077_9 ?_
    refine je_lconst0 (pc := 10) d12077_10 ?_
    refine je_ldc2 (pc := 11) d12077_11 jK_12_478 ?_
    refine ju_calls (pc := 14) (as := [_, _, _]) d12077_14 jL_12_170 jM_Mo_in rfl rfl (by exact Nat.le_of_ble_eq_true rfl) (t_Mo_in (d + 7) _ _ _) (fun r14 h14 q14 => ?_)
    obtain ⟨rfl, e14⟩ := q14
    obtain rfl := e14.symm
    refine ju_eqi (v := b2 (¬ y < 0 ∧ ¬ 100 < y)) (in_0 y (n := 100) (by decide)) ?_
    refine jb_ifeq (pc := 17) 32 d12077_17 (by decide) (fun c17 => ?_) (fun c17 => ?_)
    · refine je_bipush (pc := 32) (v := -100) d12077_32 rfl ?_
      refine je_iret (pc := 34) d12077_34 rfl ?_
      exact ⟨rfl, rfl⟩
    · refine je_iload3 (pc := 20) d12077_20 rfl ?_
      refine je_i2l (pc := 21) d12077_21 ?_
      refine je_lconst0 (pc := 22) d12077_22 ?_
      refine je_ldc2 (pc := 23) d12077_23 jK_12_480 ?_
      refine ju_calls (pc := 26) (as := [_, _, _]) d12077_26 jL_12_170 jM_Mo_in rfl rfl (by exact Nat.le_of_ble_eq_true rfl) (t_Mo_in (d + 7) _ _ _) (fun r26 h26 q26 => ?_)
      obtain ⟨rfl, e26⟩ := q26
      obtain rfl := e26.symm
      refine ju_eqi (v := b2 (¬ z < 0 ∧ ¬ 2 < z)) (in_0 z (n := 2) (by decide)) ?_
      refine jb_ifne (pc := 29) 35 d12077_29 (by decide) (fun c29 => absurd c29 (fun q => G ⟨c5, c17, q⟩)) (fun c29 => ?_)
      refine je_bipush (pc := 32) (v := -100) d12077_32 rfl ?_
      refine je_iret (pc := 34) d12077_34 rfl ?_
      exact ⟨rfl, rfl⟩
set_option maxHeartbeats 2000000 in
theorem t_Mo_ahead (d : Nat) {bc bs : Nat} {h : jx_H} {S : MS} {R : Option MR} {L : ML} {nn : Nat} (H : jx_St h) (C : mLaw h S R) (wS : wfS S) (h0 : 0 < S.1.1) (hmi : S.1.1 ≤ 10) (hL : mLa h.2.1 L) (hN : L.2.2.2.2.2 = nI nn) {j n : Nat} (z : Int32) (hj : j < S.1.1) (hn : n ≤ 100) (hnn : nn + n < 998) (hz : ¬ z < 0 ∧ ¬ 2 < z) : jx_Tr (d + 9) bc bs 12077 [.ref 253, .int (nI j), .int (nI n), .int z] h (fun r h' => r = some (.int (if z = 0 then (nitF S R n L).1 j else if z = 1 then (nitF S R n L).2.1 j else nI (onN S (nitF S R n L).1 1 S.1.2.1))) ∧ mLk h h' L ∧ ∀ j, j < 9 → h'.2.1 254 j = h.2.1 254 j) := by
  refine jx_tr jM_Mo_ahead rfl rfl (lv := [some (.ref 253), some (.int (nI j)), some (.int (nI n)), some (.int z), none]) rfl ?_
  refine je_aload0 (pc := 0) d12077_0 rfl ?_
  refine je_iload1 (pc := 1) d12077_1 rfl ?_
  refine ju_callv (pc := 2) (as := [_]) d12077_2 jL_12_178 jM_Mo_isMile rfl (by decide) (sK253 H) rfl (by exact Nat.le_of_ble_eq_true rfl) (t_Mo_isMile (d + 6) H _ C.1.1.1 (by omega)) (fun r2 h2 q2 => ?_)
  obtain ⟨rfl, e2⟩ := q2
  obtain rfl := e2.symm
  refine jb_ifeq (pc := 5) 32 d12077_5 (by decide) (fun c5 => absurd c5 (fun q => q (isM_nI hj (by omega)))) (fun c5 => ?_)
  refine je_iload2 (pc := 8) d12077_8 rfl ?_
  refine je_i2l (pc := 9) d12077_9 ?_
  refine je_lconst0 (pc := 10) d12077_10 ?_
  refine je_ldc2 (pc := 11) d12077_11 jK_12_478 ?_
  refine ju_calls (pc := 14) (as := [_, _, _]) d12077_14 jL_12_170 jM_Mo_in rfl rfl (by exact Nat.le_of_ble_eq_true rfl) (t_Mo_in (d + 7) _ _ _) (fun r14 h14 q14 => ?_)
  obtain ⟨rfl, e14⟩ := q14
  obtain rfl := e14.symm
  refine ju_eqi (v := b2 (¬ nI n < 0 ∧ ¬ 100 < nI n)) (in_0 (nI n) (n := 100) (by decide)) ?_
  refine jb_ifeq (pc := 17) 32 d12077_17 (by decide) (fun c17 => absurd c17 (fun q => q ⟨nI_pos (by omega), nI_nlt (a := 100) (b := n) hn (by decide)⟩)) (fun c17 => ?_)
  refine je_iload3 (pc := 20) d12077_20 rfl ?_
  refine je_i2l (pc := 21) d12077_21 ?_
  refine je_lconst0 (pc := 22) d12077_22 ?_
  refine je_ldc2 (pc := 23) d12077_23 jK_12_480 ?_
  refine ju_calls (pc := 26) (as := [_, _, _]) d12077_26 jL_12_170 jM_Mo_in rfl rfl (by exact Nat.le_of_ble_eq_true rfl) (t_Mo_in (d + 7) _ _ _) (fun r26 h26 q26 => ?_)
  obtain ⟨rfl, e26⟩ := q26
  obtain rfl := e26.symm
  refine ju_eqi (v := b2 (¬ z < 0 ∧ ¬ 2 < z)) (in_0 z (n := 2) (by decide)) ?_
  refine jb_ifne (pc := 29) 35 d12077_29 (by decide) (fun c29 => ?_) (fun c29 => absurd c29 (fun q => absurd hz q))
  refine je_aload0 (pc := 35) d12077_35 rfl ?_
  refine ju_callv (pc := 36) (as := []) d12077_36 jL_12_482 jM_Mo_keepsAll rfl (by decide) (sK253 H) rfl (by exact Nat.le_of_ble_eq_true rfl) (t_Mo_keepsAll (d + 5) H hL) (fun r36 h36 q36 => ?_)
  obtain ⟨rfl, k1, k2⟩ := q36
  have H1 := k1.St H
  have C1 := k1.law C
  refine je_aload0 (pc := 39) d12077_39 rfl ?_
  refine je_iload2 (pc := 40) d12077_40 rfl ?_
  refine ju_callv (pc := 41) (as := [_]) d12077_41 jL_12_485 jM_Mo_goes rfl (by decide) (sK253 H1) rfl (by exact Nat.le_of_ble_eq_true rfl) (t_Mo_goes d H1 C1 wS h0 hmi k1.2.2.2 hN (by omega)) (fun r41 h41 q41 => ?_)
  obtain ⟨rfl, f1, f2⟩ := q41
  have k3 := k1.N f1 f2
  have H2 := k3.St H
  refine je_pop (pc := 44) d12077_44 rfl ?_
  refine je_iload3 (pc := 45) d12077_45 rfl ?_
  refine ju_tern1 (pc := 46) (V := (if z = 0 then (nitF S R n L).1 j else if z = 1 then (nitF S R n L).2.1 j else nI (onN S (nitF S R n L).1 1 S.1.2.1))) 77 ?_ (fun jn46 => ?_)
  · refine ju_istore (pc := 77) (lv' := [some _, some _, some _, some _, some _]) d12077_77 rfl rfl ?_
    refine je_aload0 (pc := 79) d12077_79 rfl ?_
    refine ju_callv (pc := 80) (as := []) d12077_80 jL_12_491 jM_Mo_laysBack rfl (by decide) (sK253 H2) rfl (by exact Nat.le_of_ble_eq_true rfl) (t_Mo_laysBack (d + 5) H2 k3 hL) (fun r80 h80 q80 => ?_)
    obtain ⟨rfl, k4, k5⟩ := q80
    refine je_iload (pc := 83) d12077_83 rfl ?_
    refine je_iret (pc := 85) d12077_85 rfl ?_
    exact ⟨rfl, k4, k5⟩
  · refine je_ifne (pc := 46) 58 d12077_46 (by decide) (fun c46 => ?_) (fun c46 => ?_)
    · refine je_iload3 (pc := 58) d12077_58 rfl ?_
      refine je_iconst (pc := 59) (v := 1) d12077_59 rfl ?_
      refine je_icne (pc := 60) 72 d12077_60 (by decide) (fun c60 => ?_) (fun c60 => ?_)
      · refine je_aload0 (pc := 72) d12077_72 rfl ?_
        refine je_iconst (pc := 73) (v := 1) d12077_73 rfl ?_
        refine ju_callv (pc := 74) (as := [_]) d12077_74 jL_12_488 jM_Mo_villagesOn rfl (by decide) (sK253 H2) rfl (by exact Nat.le_of_ble_eq_true rfl) (t_Mo_villagesOn (d + 6) (S := S) (l := (nitF S R n L).1) H2 (k3.law C).1 wS (fun m hm => (f2.1 m hm).1) 1) (fun r74 h74 q74 => ?_)
        obtain ⟨rfl, e74⟩ := q74
        obtain rfl := e74.symm
        refine ju_eqi (v := (if z = 0 then (nitF S R n L).1 j else if z = 1 then (nitF S R n L).2.1 j else nI (onN S (nitF S R n L).1 1 S.1.2.1))) (by rw [if_neg c46, if_neg c60]) ?_
        exact jn46
      · refine je_aload0 (pc := 63) d12077_63 rfl ?_
        refine ju_getr (pc := 64) (b := 256) d12077_64 jF_12_16 rfl (sK253 H2) (sR253_3 H2) ?_
        refine je_iload1 (pc := 67) d12077_67 rfl ?_
        refine ju_iald (pc := 68) (jn := (j)) d12077_68 (sK256 H2) (vp_in_nI (by omega) (by decide)) (nI_clamp (by omega)) ?_
        refine ju_eqi (v := (nitF S R n L).2.1 j) (f2.1 j (by omega)).2.1 ?_
        refine je_goto (pc := 69) 77 d12077_69 (by decide) ?_
        refine ju_eqi (v := (if z = 0 then (nitF S R n L).1 j else if z = 1 then (nitF S R n L).2.1 j else nI (onN S (nitF S R n L).1 1 S.1.2.1))) (by rw [if_neg c46, if_pos c60]) ?_
        exact jn46
    · refine je_aload0 (pc := 49) d12077_49 rfl ?_
      refine ju_getr (pc := 50) (b := 255) d12077_50 jF_12_13 rfl (sK253 H2) (sR253_2 H2) ?_
      refine je_iload1 (pc := 53) d12077_53 rfl ?_
      refine ju_iald (pc := 54) (jn := (j)) d12077_54 (sK255 H2) (vp_in_nI (by omega) (by decide)) (nI_clamp (by omega)) ?_
      refine ju_eqi (v := (nitF S R n L).1 j) (f2.1 j (by omega)).1 ?_
      refine je_goto (pc := 55) 77 d12077_55 (by decide) ?_
      refine ju_eqi (v := (if z = 0 then (nitF S R n L).1 j else if z = 1 then (nitF S R n L).2.1 j else nI (onN S (nitF S R n L).1 1 S.1.2.1))) (by rw [if_pos c46]) ?_
      exact jn46
theorem op_ahead (x y z : Int32) : jo Inv 25 12077 [.int x, .int y, .int z] := jo_look (fun n h t nr rs X Y hn q => by
  obtain ⟨s, r1, r2, r3, r4, -⟩ := q.cl
  obtain ⟨b1, -, -⟩ := q.mi
  obtain ⟨-, -, -, -, ⟨-, rl, -⟩, -, ⟨wS, wl, -⟩, -⟩ := id q
  by_cases G : isM x X.1.1.1 ∧ (¬ y < 0 ∧ ¬ 100 < y) ∧ (¬ z < 0 ∧ ¬ 2 < z)
  · obtain ⟨G1, G2, G3⟩ := G
    obtain ⟨j, hj, rfl⟩ := isM_of G1 (by omega)
    obtain ⟨k, hk, rfl⟩ := z_of (n := 100) G2 (by decide)
    obtain ⟨R, C1, C2⟩ := q.law (by omega)
    obtain ⟨-, -, -, N, hN, eN⟩ := id wl
    refine ⟨_, (t_Db_ahead 193 q.1 C1 wS (by omega) rl eN r1 r3 r2 r4 z hj b1 hk (by omega) G3).mono (fun r h1 e => ⟨e.1, e.2.mo (fun b hb => by omega)⟩), fun h1 S1 g1 m1 => (t_Mo_ahead 190 S1 (C2 h1 g1) wS (by omega) b1 m1.la eN z hj hk (by omega) G3).mono (fun r h2 e => ⟨e.1, e.2.1.fin e.2.2 m1⟩)⟩
  · exact ⟨-100, (t_Db_ahead_n 193 q.1 r1 r3 x y z (by rw [r4.1.1]; exact fun c => G ⟨c.1, ⟨c.2.1, c.2.2.1⟩, c.2.2.2⟩)).mono (fun r h1 e => ⟨e.1, by rw [e.2]; exact fC.rf⟩), fun h1 S1 g1 m1 => (t_Mo_ahead_n 190 S1 m1.st.1.1 b1 x y z G).mono (fun r h2 e => ⟨e.1, by rw [e.2]; exact ⟨fM.rf, m1⟩⟩)⟩)
def fxF (S : MS) (R : Option MR) (v : Nat) : Nat → ML → Int32
  | 0, _ => -2
  | f + 1, L => if sdM S L.1 v = sdM S (nxF S R L).1 v then fxF S R v f (nxF S R L) else L.2.2.2.2.2
theorem fxF_s (S : MS) (R : Option MR) (v f k : Nat) (L : ML) : fxF S R v (f + 1) (nitF S R k L) = if sdM S (nitF S R k L).1 v = sdM S (nitF S R (k + 1) L).1 v then fxF S R v f (nitF S R (k + 1) L) else (nitF S R k L).2.2.2.2.2 := rfl
theorem crb {S : MS} {l l' : Nat → Int32} {n v : Nat} (hv : v < n) : crN S l l' n / 2 ^ v % 2 = 0 ↔ sdM S l v = sdM S l' v := by
  have h := crN_bit S l l' v n
  rw [Nat.testBit_eq_decide_div_mod_eq, decide_eq_decide] at h
  constructor
  · intro z
    by_cases c : sdM S l v = sdM S l' v
    · exact c
    · have := h.mpr ⟨hv, c⟩; omega
  · intro z
    by_cases c : crN S l l' n / 2 ^ v % 2 = 1
    · exact absurd z (h.mp c).2
    · omega
set_option maxHeartbeats 2000000 in
theorem t_Ol_firstCrossing (d : Nat) {bc bs : Nat} {h : jx_H} {S : MS} {R : Option MR} {L : ML} {nn : Nat} (H : jx_St h) (C : cLaw h S R) (wS : wfS S) (h0 : 0 < S.1.1) (hL : rL h.2.1 40 L) (hN : L.2.2.2.2.2 = nI nn) {v : Nat} (hv : v < S.1.2.1) (hn : nn + 60 < 998) : jx_Tr (d + 5) bc bs 9002 [.ref 67, .ref 40, .int (nI v)] h (fun r h' => r = some (.int (fxF S R v 60 L)) ∧ fC (fun b => b = 65 ∨ 68 ≤ b ∧ b ≤ 72) h h') := by
  refine jx_tr jM_Ol_firstCrossing rfl rfl (lv := [some (.ref 67), some (.ref 40), some (.int (nI v)), none, none]) rfl ?_
  have w8 := wS.2.1
  refine je_aload0 (pc := 0) d9002_0 rfl ?_
  refine ju_getr (pc := 1) (b := 68) d9002_1 jF_9_12 rfl (sK67 H) (sR67_1 H) ?_
  refine je_aload1 (pc := 4) d9002_4 rfl ?_
  refine ju_callv (pc := 5) (as := [_]) d9002_5 jL_9_29 jM_La_copyFrom rfl (by decide) (sK68 H) rfl (by exact Nat.le_of_ble_eq_true rfl) (t_La_copyFrom (d + 2) (a := 68) (b := 40) (sL68 H) (sL40 H) (by decide)) (fun r5 h5 q5 => ?_)
  obtain ⟨rfl, f1, f2⟩ := q5
  have H0 := f1.St H
  have L0 := f2 L hL
  refine je_iconst (pc := 8) (v := 0) d9002_8 rfl ?_
  refine ju_istore3 (pc := 9) (lv' := [some _, some _, some _, some _, none]) d9002_9 rfl rfl ?_
  refine je_loop (σ := Option Value) (60) (fun k xx => [some (.ref 67), some (.ref 40), some (.int (nI v)), some (.int (nI k)), xx]) (fun k _ h' => fC (fun b => b = 65 ∨ 68 ≤ b ∧ b ≤ 72) h h' ∧ rL h'.2.1 68 (nitF S R k L) ∧ fxF S R v (60 - k) (nitF S R k L) = fxF S R v 60 L) (fun k xx h' hk e kk => ?_) (fun xx h' e => ?_) (0) none h5 (by omega) ⟨f1.mo (fun b hb => by omega), L0, rfl⟩
  · obtain ⟨e1, e2, e3⟩ := e
    have H1 := e1.St H
    have C1 := C.fr e1 (fun b hb => olA (by omega))
    rw [show 60 - k = (60 - (k + 1)) + 1 by omega, fxF_s] at e3
    refine je_iload3 (pc := 10) d9002_10 rfl ?_
    refine je_bipush (pc := 11) (v := 60) d9002_11 rfl ?_
    refine jn_icge (pc := 13) (a := (k)) (b := 60) 53 d9002_13 (by decide) (by omega) (by omega) (fun c13 => by exfalso; omega) (fun c13 => ?_)
    refine je_aload0 (pc := 16) d9002_16 rfl ?_
    refine ju_getr (pc := 17) (b := 68) d9002_17 jF_9_12 rfl (sK67 H1) (sR67_1 H1) ?_
    refine ju_geti (pc := 20) d9002_20 jF_9_39 rfl (sK68 H1) ?_
    refine ju_eqi (v := (nitF S R k L).2.2.2.2.2) e2.2.2.2.2.2 ?_
    refine ju_istore (pc := 23) (lv' := [some _, some _, some _, some _, some _]) d9002_23 rfl rfl ?_
    refine je_aload0 (pc := 25) d9002_25 rfl ?_
    refine ju_getr (pc := 26) (b := 51) d9002_26 jF_9_25 rfl (sK67 H1) (sR67_0 H1) ?_
    refine je_aload0 (pc := 29) d9002_29 rfl ?_
    refine ju_getr (pc := 30) (b := 68) d9002_30 jF_9_12 rfl (sK67 H1) (sR67_1 H1) ?_
    refine je_iconst (pc := 33) (v := -1) d9002_33 rfl ?_
    refine ju_callv (pc := 34) (as := [_, _]) d9002_34 jL_9_35 jM_Lw_pass rfl (by decide) (sK51 H1) rfl (by exact Nat.le_of_ble_eq_true rfl) (t_Lw_pass (d + 0) (a := 68) H1 C1 wS h0 (Or.inr (Or.inl rfl)) e2 (nn := nn + k) (nit_n hN k) (by omega) (-1) _ rfl) (fun r34 h34 q34 => ?_)
    obtain ⟨rfl, f3, f4⟩ := q34
    rw [if_pos rfl] at f4
    rw [if_pos rfl]
    have zl : crN S (nitF S R k L).1 (nitF S R (k + 1) L).1 S.1.2.1 < 2 ^ 8 := Nat.lt_of_lt_of_le (crN_lt S _ _) (Nat.pow_le_pow_right (by decide) w8)
    have zq : crN S (nitF S R k L).1 (nitF S R (k + 1) L).1 S.1.2.1 / 2 ^ v ≤ crN S (nitF S R k L).1 (nitF S R (k + 1) L).1 S.1.2.1 := Nat.div_le_self _ _
    refine je_iload2 (pc := 37) d9002_37 rfl ?_
    refine je_ishr (pc := 38) d9002_38 ?_
    refine ju_eqi (v := nI (crN S (nitF S R k L).1 (nitF S R (k + 1) L).1 S.1.2.1 / 2 ^ v)) (sh_r (Nat.lt_of_lt_of_le zl (by decide)) (by omega)) ?_
    refine je_iconst (pc := 39) (v := 1) d9002_39 rfl ?_
    refine je_iand (pc := 40) d9002_40 ?_
    refine ju_eqi (v := nI (crN S (nitF S R k L).1 (nitF S R (k + 1) L).1 S.1.2.1 / 2 ^ v % 2)) (pk_andN (by omega) 1 (by decide)) ?_
    refine jn_ifeq (pc := 41) (a := (crN S (nitF S R k L).1 (nitF S R (k + 1) L).1 S.1.2.1 / 2 ^ v % 2)) 47 d9002_41 (by decide) (by omega) (fun c41 => ?_) (fun c41 => ?_)
    · refine ju_incN (pc := 47) (v := nI ((k) + 1)) (lv' := [some _, some _, some _, some _, some _]) d9002_47 rfl (nI_1 (k)) rfl ?_
      refine je_goto (pc := 50) 10 d9002_50 (by decide) ?_
      rw [if_pos ((crb hv).mp c41)] at e3
      exact kk (some _) _ ⟨e1.tr (f3.mo (fun b hb => by omega)), f4, e3⟩
    · refine je_iload (pc := 44) d9002_44 rfl ?_
      refine je_iret (pc := 46) d9002_46 rfl ?_
      rw [if_neg (fun q => c41 ((crb hv).mpr q))] at e3
      exact ⟨by rw [e3], e1.tr (f3.mo (fun b hb => by omega))⟩
  · obtain ⟨e1, e2, e3⟩ := e
    have H1 := e1.St H
    have C1 := C.fr e1 (fun b hb => olA (by omega))
    refine je_iload3 (pc := 10) d9002_10 rfl ?_
    refine je_bipush (pc := 11) (v := 60) d9002_11 rfl ?_
    refine jn_icge (pc := 13) (a := ((60))) (b := 60) 53 d9002_13 (by decide) (by omega) (by omega) (fun c13 => ?_) (fun c13 => by exfalso; omega)
    refine je_bipush (pc := 53) (v := -2) d9002_53 rfl ?_
    refine je_iret (pc := 55) d9002_55 rfl ?_
    exact ⟨by rw [← e3]; rfl, e1⟩
set_option maxHeartbeats 2000000 in
theorem t_Db_crosses_n (d : Nat) {bc bs : Nat} {h : jx_H} {s : Nat} (H : jx_St h) (hr : h.2.2.2 26 0 = some s) (P : jx_Sp h s) (x : Int32) (G : ¬ (¬ x < 0 ∧ x < h.2.1 s 2)) : jx_Tr (d + 6) bc bs 26 [.ref 1, .int x] h (fun r h' => r = some (.int (-1)) ∧ h' = h) := by
  refine jx_tr jM_Db_crosses rfl rfl (lv := [some (.ref 1), some (.int x)]) rfl ?_
  refine je_aload0 (pc := 0) d26_0 rfl ?_
  refine je_iload1 (pc := 1) d26_1 rfl ?_
  refine ju_callv (pc := 2) (as := [_]) d26_2 jL_0_150 jM_Db_isVillage rfl (by decide) (sK1 H) rfl (by exact Nat.le_of_ble_eq_true rfl) (t_Db_isVillage (d + 4) H hr P _) (fun r2 h2 q2 => ?_)
  obtain ⟨rfl, e2⟩ := q2
  obtain rfl := e2.symm
  refine jb_ifeq (pc := 5) 26 d26_5 (by decide) (fun c5 => ?_) (fun c5 => absurd c5 G)
  refine je_iconst (pc := 26) (v := -1) d26_26 rfl ?_
  refine je_iret (pc := 27) d26_27 rfl ?_
  exact ⟨rfl, rfl⟩
set_option maxHeartbeats 2000000 in
theorem t_Db_crosses (d : Nat) {bc bs : Nat} {h : jx_H} {S : MS} {R : Option MR} {L : ML} {nn : Nat} (H : jx_St h) (C : cLaw h S R) (wS : wfS S) (h0 : 0 < S.1.1) (hL : rL h.2.1 40 L) (hN : L.2.2.2.2.2 = nI nn) {s : Nat} (hr : h.2.2.2 26 0 = some s) (P : jx_Sp h s) {v : Nat} (G : nI v < h.2.1 s 2) (hv : v < S.1.2.1) (hn : nn + 60 < 998) : jx_Tr (d + 6) bc bs 26 [.ref 1, .int (nI v)] h (fun r h' => r = some (.int (fxF S R v 60 L)) ∧ fC (fun b => b = 65 ∨ 68 ≤ b ∧ b ≤ 72) h h') := by
  refine jx_tr jM_Db_crosses rfl rfl (lv := [some (.ref 1), some (.int (nI v))]) rfl ?_
  have w8 := wS.2.1
  refine je_aload0 (pc := 0) d26_0 rfl ?_
  refine je_iload1 (pc := 1) d26_1 rfl ?_
  refine ju_callv (pc := 2) (as := [_]) d26_2 jL_0_150 jM_Db_isVillage rfl (by decide) (sK1 H) rfl (by exact Nat.le_of_ble_eq_true rfl) (t_Db_isVillage (d + 4) H hr P _) (fun r2 h2 q2 => ?_)
  obtain ⟨rfl, e2⟩ := q2
  obtain rfl := e2.symm
  refine jb_ifeq (pc := 5) 26 d26_5 (by decide) (fun c5 => absurd c5 (fun q => q ⟨nI_pos (by omega), G⟩)) (fun c5 => ?_)
  refine je_aload0 (pc := 8) d26_8 rfl ?_
  refine ju_getr (pc := 9) (b := 67) d26_9 jF_0_65 rfl (sK1 H) (sR1_9 H) ?_
  refine je_aload0 (pc := 12) d26_12 rfl ?_
  refine ju_getr (pc := 13) (b := 26) d26_13 jF_0_41 rfl (sK1 H) (sR1_5 H) ?_
  refine ju_getr (pc := 16) (b := 40) d26_16 jF_0_124 rfl (sK26 H) (sR26_1 H) ?_
  refine je_iload1 (pc := 19) d26_19 rfl ?_
  refine ju_callv (pc := 20) (as := [_, _]) d26_20 jL_0_233 jM_Ol_firstCrossing rfl (by decide) (sK67 H) rfl (by exact Nat.le_of_ble_eq_true rfl) (t_Ol_firstCrossing d H C wS h0 hL hN hv hn) (fun r20 h20 q20 => ?_)
  obtain ⟨rfl, f1⟩ := q20
  refine je_goto (pc := 23) 27 d26_23 (by decide) ?_
  refine je_iret (pc := 27) d26_27 rfl ?_
  exact ⟨rfl, f1⟩
set_option maxHeartbeats 2000000 in
theorem t_Mo_crosses_n (d : Nat) {bc bs : Nat} {h : jx_H} (H : jx_St h) {nv : Nat} (hm : h.2.1 254 2 = nI nv) (hmi : nv ≤ 8) (x : Int32) (G : ¬ isM x nv) : jx_Tr (d + 8) bc bs 12084 [.ref 253, .int x] h (fun r h' => r = some (.int (-1)) ∧ h' = h) := by
  refine jx_tr jM_Mo_crosses rfl rfl (lv := [some (.ref 253), some (.int x), none, none, none]) rfl ?_
  refine je_aload0 (pc := 0) d12084_0 rfl ?_
  refine je_iload1 (pc := 1) d12084_1 rfl ?_
  refine ju_callv (pc := 2) (as := [_]) d12084_2 jL_12_397 jM_Mo_isVillage rfl (by decide) (sK253 H) rfl (by exact Nat.le_of_ble_eq_true rfl) (t_Mo_isVillage (d + 5) H _ hm (by omega)) (fun r2 h2 q2 => ?_)
  obtain ⟨rfl, e2⟩ := q2
  obtain rfl := e2.symm
  refine jb_ifne (pc := 5) 10 d12084_5 (by decide) (fun c5 => absurd c5 G) (fun c5 => ?_)
  refine je_iconst (pc := 8) (v := -1) d12084_8 rfl ?_
  refine je_iret (pc := 9) d12084_9 rfl ?_
  exact ⟨rfl, rfl⟩
set_option maxHeartbeats 4000000 in
theorem t_Mo_crosses (d : Nat) {bc bs : Nat} {h : jx_H} {S : MS} {R : Option MR} {L : ML} {nn : Nat} (H : jx_St h) (C : mLaw h S R) (wS : wfS S) (h0 : 0 < S.1.1) (hmi : S.1.1 ≤ 10) (hL : mLa h.2.1 L) (hN : L.2.2.2.2.2 = nI nn) {v nl : Nat} (hv : v < S.1.2.1) (hn : nn + 60 < 998) (hc : bdI (L.2.2.2.1 v) 0 nl) (hnl : nl < 100000) : jx_Tr (d + 8) bc bs 12084 [.ref 253, .int (nI v)] h (fun r h' => r = some (.int (fxF S R v 60 L)) ∧ mLk h h' L ∧ ∀ j, j < 9 → h'.2.1 254 j = h.2.1 254 j) := by
  refine jx_tr jM_Mo_crosses rfl rfl (lv := [some (.ref 253), some (.int (nI v)), none, none, none]) rfl ?_
  have w8 := wS.2.1
  have lt1 : L.2.2.2.1 v < L.2.2.2.1 v + 1 := by
    have := hc.1
    have := hc.2
    rw [fa_lt, tI_add (by omega) (by omega) (by decide) (by decide), show (1 : Int32).toInt = 1 from rfl]
    omega
  refine je_aload0 (pc := 0) d12084_0 rfl ?_
  refine je_iload1 (pc := 1) d12084_1 rfl ?_
  refine ju_callv (pc := 2) (as := [_]) d12084_2 jL_12_397 jM_Mo_isVillage rfl (by decide) (sK253 H) rfl (by exact Nat.le_of_ble_eq_true rfl) (t_Mo_isVillage (d + 5) H _ C.1.1.2.2.1 (by omega)) (fun r2 h2 q2 => ?_)
  obtain ⟨rfl, e2⟩ := q2
  obtain rfl := e2.symm
  refine jb_ifne (pc := 5) 10 d12084_5 (by decide) (fun c5 => ?_) (fun c5 => absurd c5 (fun q => q (isM_nI hv (by omega))))
  refine je_aload0 (pc := 10) d12084_10 rfl ?_
  refine ju_callv (pc := 11) (as := []) d12084_11 jL_12_482 jM_Mo_keepsAll rfl (by decide) (sK253 H) rfl (by exact Nat.le_of_ble_eq_true rfl) (t_Mo_keepsAll (d + 4) H hL) (fun r11 h11 q11 => ?_)
  obtain ⟨rfl, k1, k2⟩ := q11
  have H1 := k1.St H
  have C1 := k1.law C
  refine je_aload0 (pc := 14) d12084_14 rfl ?_
  refine ju_getr (pc := 15) (b := 262) d12084_15 jF_12_34 rfl (sK253 H1) (sR253_9 H1) ?_
  refine je_iload1 (pc := 18) d12084_18 rfl ?_
  refine ju_iald (pc := 19) (jn := (v)) d12084_19 (sK262 H1) (vp_in_nI (by omega) (by decide)) (nI_clamp (by omega)) ?_
  refine ju_eqi (v := L.2.2.2.1 v) (k1.2.2.2.2.1 v (by omega)) ?_
  refine ju_istore2 (pc := 20) (lv' := [some _, some _, some _, none, none]) d12084_20 rfl rfl ?_
  refine je_bipush (pc := 21) (v := -2) d12084_21 rfl ?_
  refine ju_istore3 (pc := 23) (lv' := [some _, some _, some _, some _, none]) d12084_23 rfl rfl ?_
  refine je_iconst (pc := 24) (v := 0) d12084_24 rfl ?_
  refine ju_istore (pc := 25) (lv' := [some _, some _, some _, some _, some _]) d12084_25 rfl rfl ?_
  refine je_loop (σ := Int32) (60) (fun k xx => [some (.ref 253), some (.int (nI v)), some (.int (L.2.2.2.1 v)), some (.int xx), some (.int (nI k))]) (fun k xx h' => ∃ L', mLk h h' L' ∧ (xx = -2 → L' = nitF S R k L ∧ fxF S R v (60 - k) L' = fxF S R v 60 L ∧ L'.2.2.2.1 v = L.2.2.2.1 v) ∧ (¬ xx = -2 → xx = fxF S R v 60 L)) (fun k xx h' hk e kk => ?_) (fun xx h' e => ?_) (0) (-2) h11 (by omega) ⟨L, k1, fun _ => ⟨rfl, rfl, rfl⟩, fun z => absurd rfl z⟩
  · obtain ⟨L', e1, e2, e3⟩ := e
    have H1 := e1.St H
    refine je_iload (pc := 27) d12084_27 rfl ?_
    refine je_bipush (pc := 29) (v := 60) d12084_29 rfl ?_
    refine jn_icge (pc := 31) (a := (k)) (b := 60) 75 d12084_31 (by decide) (by omega) (by omega) (fun c31 => by exfalso; omega) (fun c31 => ?_)
    refine je_iload3 (pc := 34) d12084_34 rfl ?_
    refine je_bipush (pc := 35) (v := -2) d12084_35 rfl ?_
    refine je_icne (pc := 37) 75 d12084_37 (by decide) (fun c37 => ?_) (fun c37 => ?_)
    · refine je_aload0 (pc := 75) d12084_75 rfl ?_
      refine ju_callv (pc := 76) (as := []) d12084_76 jL_12_491 jM_Mo_laysBack rfl (by decide) (sK253 H1) rfl (by exact Nat.le_of_ble_eq_true rfl) (t_Mo_laysBack (d + 4) H1 e1 hL) (fun r76 h76 q76 => ?_)
      obtain ⟨rfl, k4, k5⟩ := q76
      refine je_iload3 (pc := 79) d12084_79 rfl ?_
      refine je_iret (pc := 80) d12084_80 rfl ?_
      exact ⟨by rw [e3 c37], k4, k5⟩
    · obtain ⟨rfl, e4, e5⟩ := e2 c37
      have C2 := e1.law C
      rw [show 60 - k = (60 - (k + 1)) + 1 by omega, fxF_s] at e4
      refine je_aload0 (pc := 40) d12084_40 rfl ?_
      refine ju_callv (pc := 41) (as := []) d12084_41 jL_12_439 jM_Mo_goesNight rfl (by decide) (sK253 H1) rfl (by exact Nat.le_of_ble_eq_true rfl) (t_Mo_goesNight d H1 C2 wS h0 hmi e1.2.2.2 (nit_n hN k) (by omega)) (fun r41 h41 q41 => ?_)
      obtain ⟨rfl, f1, f2⟩ := q41
      have k6 : mLk h h41 (nitF S R (k + 1) L) := e1.N f1 f2
      have H2 := k6.St H
      have cr : h41.2.1 262 v = if sdM S (nitF S R k L).1 v = sdM S (nitF S R (k + 1) L).1 v then L.2.2.2.1 v else L.2.2.2.1 v + 1 := by
        rw [f2.2.1 v (by omega)]
        show croF S (nitF S R k L).1 (nitF S R (k + 1) L).1 (nitF S R k L).2.2.2.1 v = _
        unfold croF
        rw [e5]
        by_cases z : sdM S (nitF S R k L).1 v = sdM S (nitF S R (k + 1) L).1 v
        · rw [if_pos z, if_neg (fun q => q.2 z)]
        · rw [if_neg z, if_pos ⟨hv, z⟩]
      refine je_pop (pc := 44) d12084_44 rfl ?_
      refine je_aload0 (pc := 45) d12084_45 rfl ?_
      refine ju_getr (pc := 46) (b := 262) d12084_46 jF_12_34 rfl (sK253 H2) (sR253_9 H2) ?_
      refine je_iload1 (pc := 49) d12084_49 rfl ?_
      refine ju_iald (pc := 50) (jn := (v)) d12084_50 (sK262 H2) (vp_in_nI (by omega) (by decide)) (nI_clamp (by omega)) ?_
      refine ju_eqi (v := (if sdM S (nitF S R k L).1 v = sdM S (nitF S R (k + 1) L).1 v then L.2.2.2.1 v else L.2.2.2.1 v + 1)) cr ?_
      refine je_iload2 (pc := 51) d12084_51 rfl ?_
      refine ju_tern2 (pc := 52) (V := (if sdM S (nitF S R k L).1 v = sdM S (nitF S R (k + 1) L).1 v then -2 else nI (nn + k))) 68 ?_ (fun jn52 => ?_)
      · refine ju_istore3 (pc := 68) (lv' := [some _, some _, some _, some _, some _]) d12084_68 rfl rfl ?_
        refine ju_incN (pc := 69) (v := nI ((k) + 1)) (lv' := [some _, some _, some _, some _, some _]) d12084_69 rfl (nI_1 (k)) rfl ?_
        refine je_goto (pc := 72) 27 d12084_72 (by decide) ?_
        refine kk _ _ ⟨_, k6, fun z => ?_, fun z => ?_⟩
        · by_cases y : sdM S (nitF S R k L).1 v = sdM S (nitF S R (k + 1) L).1 v
          · rw [if_pos y] at e4
            refine ⟨rfl, e4, ?_⟩
            show croF S (nitF S R k L).1 (nitF S R (k + 1) L).1 (nitF S R k L).2.2.2.1 v = _
            unfold croF
            rw [if_neg (fun q => q.2 y)]
            exact e5
          · rw [if_neg y] at z
            exact absurd z (fun q => nI_pos (n := nn + k) (by omega) (by rw [q]; decide))
        · by_cases y : sdM S (nitF S R k L).1 v = sdM S (nitF S R (k + 1) L).1 v
          · rw [if_pos y] at z
            exact absurd rfl z
          · rw [if_neg y] at e4
            rw [if_neg y, ← e4, nit_n hN k]
      · refine ju_icle (pc := 52) 66 d12084_52 (by decide) (fun c52 => ?_) (fun c52 => ?_)
        · refine je_bipush (pc := 66) (v := -2) d12084_66 rfl ?_
          refine ju_eqi (v := (if sdM S (nitF S R k L).1 v = sdM S (nitF S R (k + 1) L).1 v then -2 else nI (nn + k))) (Decidable.byCases (p := sdM S (nitF S R k L).1 v = sdM S (nitF S R (k + 1) L).1 v) (fun z => (if_pos z).symm) (fun z => absurd lt1 (by rw [if_neg z] at c52; exact c52))) ?_
          exact jn52
        · refine je_aload0 (pc := 55) d12084_55 rfl ?_
          refine ju_getr (pc := 56) (b := 254) d12084_56 jF_12_9 rfl (sK253 H2) (sR253_1 H2) ?_
          refine je_iconst (pc := 59) (v := 5) d12084_59 rfl ?_
          refine ju_iald (pc := 60) (jn := 5) d12084_60 (sK254 H2) (by first | assumption | exact jx_ok_dec (by decide)) (by decide) ?_
          refine ju_eqi (v := nI (nn + (k + 1))) (f2.2.2.2.trans (nit_n hN (k + 1))) ?_
          refine je_iconst (pc := 61) (v := 1) d12084_61 rfl ?_
          refine je_isub (pc := 62) d12084_62 ?_
          refine ju_eqi (v := nI ((nn + (k + 1)) - 1)) (pk_sub (a := (nn + (k + 1))) (b := 1) (by omega)) ?_
          refine je_goto (pc := 63) 68 d12084_63 (by decide) ?_
          refine ju_eqi (v := (if sdM S (nitF S R k L).1 v = sdM S (nitF S R (k + 1) L).1 v then -2 else nI (nn + k))) (Decidable.byCases (p := sdM S (nitF S R k L).1 v = sdM S (nitF S R (k + 1) L).1 v) (fun z => absurd (show L.2.2.2.1 v < L.2.2.2.1 v by rw [if_pos z] at c52; exact c52) Int32.lt_irrefl) (fun z => by rw [if_neg z, show nn + (k + 1) - 1 = nn + k by omega])) ?_
          exact jn52
  · obtain ⟨L', e1, e2, e3⟩ := e
    have H1 := e1.St H
    refine je_iload (pc := 27) d12084_27 rfl ?_
    refine je_bipush (pc := 29) (v := 60) d12084_29 rfl ?_
    refine jn_icge (pc := 31) (a := ((60))) (b := 60) 75 d12084_31 (by decide) (by omega) (by omega) (fun c31 => ?_) (fun c31 => by exfalso; omega)
    refine je_aload0 (pc := 75) d12084_75 rfl ?_
    refine ju_callv (pc := 76) (as := []) d12084_76 jL_12_491 jM_Mo_laysBack rfl (by decide) (sK253 H1) rfl (by exact Nat.le_of_ble_eq_true rfl) (t_Mo_laysBack (d + 4) H1 e1 hL) (fun r76 h76 q76 => ?_)
    obtain ⟨rfl, k4, k5⟩ := q76
    refine je_iload3 (pc := 79) d12084_79 rfl ?_
    refine je_iret (pc := 80) d12084_80 rfl ?_
    rcases Decidable.em (xx = -2) with z | z
    · exact ⟨by rw [z, ← (e2 z).2.1]; rfl, k4, k5⟩
    · exact ⟨by rw [e3 z], k4, k5⟩
theorem op_crosses (x : Int32) : jo Inv 26 12084 [.int x] := jo_look (fun n h t nr rs X Y hn q => by
  obtain ⟨s, r1, r2, r3, r4, -⟩ := q.cl
  obtain ⟨b1, b2, -⟩ := q.mi
  obtain ⟨-, -, -, -, ⟨-, rl, -⟩, -, ⟨wS, wl, -⟩, -⟩ := id q
  by_cases G : isM x X.1.1.2.1
  · obtain ⟨j, hj, rfl⟩ := isM_of G (by omega)
    have h0 : 0 < X.1.1.1 := by rcases wS.1 with z | z <;> omega
    obtain ⟨R, C1, C2⟩ := q.law h0
    obtain ⟨-, wc, -, N, hN, eN⟩ := id wl
    refine ⟨_, (t_Db_crosses 193 q.1 C1 wS h0 rl eN r1 r3 (by rw [r4.1.2.2.1]; exact G.2) hj (by omega)).mono (fun r h1 e => ⟨e.1, e.2.mo (fun b hb => by omega)⟩), fun h1 S1 g1 m1 => (t_Mo_crosses 191 S1 (C2 h1 g1) wS h0 b1 m1.la eN hj (by omega) (wc j (by omega)).1 (by omega)).mono (fun r h2 e => ⟨e.1, e.2.1.fin e.2.2 m1⟩)⟩
  · exact ⟨-1, (t_Db_crosses_n 193 q.1 r1 r3 x (by rw [r4.1.2.2.1]; exact G)).mono (fun r h1 e => ⟨e.1, by rw [e.2]; exact fC.rf⟩), fun h1 S1 g1 m1 => (t_Mo_crosses_n 191 S1 m1.st.1.2.2.1 b2 x G).mono (fun r h2 e => ⟨e.1, by rw [e.2]; exact ⟨fM.rf, m1⟩⟩)⟩)
