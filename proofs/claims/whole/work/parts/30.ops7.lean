/-! log, part -/
theorem mW.st {h : jx_H} {X : MW} (m : mW (gN h) X) : mSt h.2.1 X.1 := m.1
theorem mW.la {h : jx_H} {X : MW} (m : mW (gN h) X) : mLa h.2.1 X.2.1 := m.2.1
theorem mW.fx {h : jx_H} {X : MW} (m : mW (gN h) X) : h.2.1 254 8 = X.2.2.1.1 ∧ h.2.1 254 7 = X.2.2.1.2 := m.2.2.1
theorem mW.lg {h : jx_H} {X : MW} (m : mW (gN h) X) : h.2.1 254 6 = nI X.2.2.2.1.1 ∧ ∀ k, k < X.2.2.2.1.1 → h.2.1 265 k = X.2.2.2.1.2.1 k ∧ h.2.1 266 k = X.2.2.2.1.2.2.1 k ∧ h.2.1 267 k = X.2.2.2.1.2.2.2 k := m.2.2.2.1
theorem mW.pa {h : jx_H} {X : MW} (m : mW (gN h) X) : h.2.1 253 51 = nI X.2.2.2.2.1 ∧ ∀ i, i < X.2.2.2.2.1 → mP (fun j => h.2.1 292 (40 * i + j)) (X.2.2.2.2.2 i) := m.2.2.2.2
theorem mW.mk {h h' : jx_H} {X X' : MW} (m : mW (gN h) X) (eS : X'.1 = X.1) (e : ∀ a, (258 ≤ a ∧ a ≤ 261) ∨ (263 ≤ a ∧ a ≤ 264) ∨ a = 268 ∨ a = 269 → h'.2.1 a = h.2.1 a) (e4 : ∀ j, j < 4 → h'.2.1 254 j = h.2.1 254 j) (l : mLa h'.2.1 X'.2.1)
    (f : h'.2.1 254 8 = X'.2.2.1.1 ∧ h'.2.1 254 7 = X'.2.2.1.2) (lg : h'.2.1 254 6 = nI X'.2.2.2.1.1 ∧ ∀ k, k < X'.2.2.2.1.1 → h'.2.1 265 k = X'.2.2.2.1.2.1 k ∧ h'.2.1 266 k = X'.2.2.2.1.2.2.1 k ∧ h'.2.1 267 k = X'.2.2.2.1.2.2.2 k)
    (p : h'.2.1 253 51 = nI X'.2.2.2.2.1 ∧ ∀ i, i < X'.2.2.2.2.1 → mP (fun j => h'.2.1 292 (40 * i + j)) (X'.2.2.2.2.2 i)) : mW (gN h') X' :=
  m.ch eS (fun a ha => by rw [gN_ne _ (by omega), gN_ne _ (by omega)]; exact e a ha) (fun j hj => by rw [gN_ne _ (by omega), gN_ne _ (by omega)]; exact e4 j hj) l f lg p
theorem mLa.of {I I' : Nat → Nat → Int32} {L : ML} (m : mLa I L) (e5 : I' 255 = I 255) (e6 : I' 256 = I 256) (e7 : I' 257 = I 257) (e2 : I' 262 = I 262) (e4 : I' 254 4 = I 254 4) (e45 : I' 254 5 = I 254 5) : mLa I' L := by
  unfold mLa at m ⊢
  rw [e5, e6, e7, e2, e4, e45]
  exact m
theorem ju_eqi {d bc bs i pc : Nat} {lv : List (Option Value)} {st : List Value} {h : jx_H} {Q : Option Value → jx_H → Prop} {x v : Int32} (e : x = v) (k : jx_Ev d bc bs i pc lv (.int v :: st) h Q) : jx_Ev d bc bs i pc lv (.int x :: st) h Q := by rw [e]; exact k
theorem ju_eql {d bc bs i pc : Nat} {lv : List (Option Value)} {st : List Value} {h : jx_H} {Q : Option Value → jx_H → Prop} {x v : Int64} (e : x = v) (k : jx_Ev d bc bs i pc lv (.long v :: st) h Q) : jx_Ev d bc bs i pc lv (.long x :: st) h Q := by rw [e]; exact k
set_option maxHeartbeats 2000000 in
theorem t_Wo_addLog (d : Nat) {bc bs : Nat} {h : jx_H} (H : jx_St h) {k : Nat} (x y z : Int32) (hk : h.2.1 26 4 = nI k) (hk2 : k < 10) : jx_Tr (d + 1) bc bs 7005 [.ref 26, .int x, .int y, .int z] h (fun r h' => r = none ∧ h' = jx_wI (jx_wI (jx_wI (jx_wI h 45 k x) 46 k y) 47 k z) 26 4 (nI (k + 1))) := by
  refine jx_tr jM_Wo_addLog rfl rfl (lv := [some (.ref 26), some (.int x), some (.int y), some (.int z)]) rfl ?_
  refine je_aload0 (pc := 0) d7005_0 rfl ?_
  refine ju_geti (pc := 1) d7005_1 jF_7_49 rfl (sK26 H) ?_
  refine ju_eqi (v := nI k) hk ?_
  refine je_bipush (pc := 4) (v := 10) d7005_4 rfl ?_
  refine ju_icge (pc := 6) 49 d7005_6 (by decide) (fun c6 => absurd c6 (fun z => z (nI_lt (a := k) (b := 10) hk2 (by decide)))) (fun c6 => ?_)
  refine je_aload0 (pc := 9) d7005_9 rfl ?_
  refine ju_getr (pc := 10) (b := 45) d7005_10 jF_7_29 rfl (sK26 H) (sR26_5 H) ?_
  refine je_aload0 (pc := 13) d7005_13 rfl ?_
  refine ju_geti (pc := 14) d7005_14 jF_7_49 rfl (sK26 H) ?_
  refine ju_eqi (v := nI k) hk ?_
  refine je_iload1 (pc := 17) d7005_17 rfl ?_
  refine ju_iast (pc := 18) (jn := k) d7005_18 (sK45 H) (vp_in_nI (by omega) (by decide)) (nI_clamp (by omega)) ?_
  refine je_aload0 (pc := 19) d7005_19 rfl ?_
  refine ju_getr (pc := 20) (b := 46) d7005_20 jF_7_33 rfl (sK26 H.wI) (sR26_6 H.wI) ?_
  refine je_aload0 (pc := 23) d7005_23 rfl ?_
  refine ju_geti (pc := 24) d7005_24 jF_7_49 rfl (sK26 H.wI) ?_
  refine ju_eqi (v := nI k) (by rw [wI_ne _ _ _ (by decide)]; exact hk) ?_
  refine je_iload2 (pc := 27) d7005_27 rfl ?_
  refine ju_iast (pc := 28) (jn := k) d7005_28 (sK46 H.wI) (vp_in_nI (by omega) (by decide)) (nI_clamp (by omega)) ?_
  refine je_aload0 (pc := 29) d7005_29 rfl ?_
  refine ju_getr (pc := 30) (b := 47) d7005_30 jF_7_36 rfl (sK26 H.wI.wI) (sR26_7 H.wI.wI) ?_
  refine je_aload0 (pc := 33) d7005_33 rfl ?_
  refine ju_geti (pc := 34) d7005_34 jF_7_49 rfl (sK26 H.wI.wI) ?_
  refine ju_eqi (v := nI k) (by rw [wI_ne _ _ _ (by decide), wI_ne _ _ _ (by decide)]; exact hk) ?_
  refine je_iload3 (pc := 37) d7005_37 rfl ?_
  refine ju_iast (pc := 38) (jn := k) d7005_38 (sK47 H.wI.wI) (vp_in_nI (by omega) (by decide)) (nI_clamp (by omega)) ?_
  refine je_aload0 (pc := 39) d7005_39 rfl ?_
  refine je_dup (pc := 40) d7005_40 rfl ?_
  refine ju_geti (pc := 41) d7005_41 jF_7_49 rfl (sK26 H.wI.wI.wI) ?_
  refine ju_eqi (v := nI k) (by rw [wI_ne _ _ _ (by decide), wI_ne _ _ _ (by decide), wI_ne _ _ _ (by decide)]; exact hk) ?_
  refine je_iconst (pc := 44) (v := 1) d7005_44 rfl ?_
  refine je_iadd (pc := 45) d7005_45 ?_
  refine ju_eqi (v := nI (k + 1)) (nI_1 k) ?_
  refine ju_puti (pc := 46) d7005_46 jF_7_49 rfl (sK26 H.wI.wI.wI) ?_
  refine je_ret (pc := 49) d7005_49 rfl ?_
  exact ⟨rfl, rfl⟩
set_option maxHeartbeats 2000000 in
theorem t_Db_log_c (d : Nat) {bc bs : Nat} {h : jx_H} (H : jx_St h) (y z : Int32) : jx_Tr (d + 2) bc bs 29 [.ref 1, .int (-1), .int y, .int z] h (fun r h' => r = some (.int 0) ∧ h' = jx_wI h 26 4 0) := by
  refine jx_tr jM_Db_log rfl rfl (lv := [some (.ref 1), some (.int (-1)), some (.int y), some (.int z)]) rfl ?_
  refine je_iload1 (pc := 0) d29_0 rfl ?_
  refine je_iconst (pc := 1) (v := -1) d29_1 rfl ?_
  refine je_icne (pc := 2) 15 d29_2 (by decide) (fun c2 => absurd c2 (fun z => z rfl)) (fun c2 => ?_)
  refine je_aload0 (pc := 5) d29_5 rfl ?_
  refine ju_getr (pc := 6) (b := 26) d29_6 jF_0_41 rfl (sK1 H) (sR1_5 H) ?_
  refine je_iconst (pc := 9) (v := 0) d29_9 rfl ?_
  refine ju_puti (pc := 10) d29_10 jF_0_248 rfl (sK26 H) ?_
  refine je_iconst (pc := 13) (v := 0) d29_13 rfl ?_
  refine je_iret (pc := 14) d29_14 rfl ?_
  exact ⟨rfl, rfl⟩
set_option maxHeartbeats 2000000 in
theorem t_Db_log_n (d : Nat) {bc bs : Nat} {h : jx_H} {s : Nat} (H : jx_St h) (hr : h.2.2.2 26 0 = some s) (P : jx_Sp h s) (x y z : Int32) (h1 : ¬ x = -1) (G : ¬ (¬ x < 0 ∧ ¬ 30 < x ∧ (¬ y < 0 ∧ y < h.2.1 s 0) ∧ ¬ z < 0 ∧ ¬ 99 < z ∧ h.2.1 26 4 < 10)) : jx_Tr (d + 2) bc bs 29 [.ref 1, .int x, .int y, .int z] h (fun r h' => r = some (.int (-2)) ∧ h' = h) := by
  refine jx_tr jM_Db_log rfl rfl (lv := [some (.ref 1), some (.int x), some (.int y), some (.int z)]) rfl ?_
  refine je_iload1 (pc := 0) d29_0 rfl ?_
  refine je_iconst (pc := 1) (v := -1) d29_1 rfl ?_
  refine je_icne (pc := 2) 15 d29_2 (by decide) (fun c2 => ?_) (fun c2 => absurd c2 (fun z => h1 z))
  refine je_iload1 (pc := 15) d29_15 rfl ?_
  refine je_iflt (pc := 16) 55 d29_16 (by decide) (fun c16 => ?_) (fun c16 => ?_)
  · refine je_bipush (pc := 55) (v := -2) d29_55 rfl ?_
    refine je_iret (pc := 57) d29_57 rfl ?_
    exact ⟨rfl, rfl⟩
  · refine je_iload1 (pc := 19) d29_19 rfl ?_
    refine je_bipush (pc := 20) (v := 30) d29_20 rfl ?_
    refine je_icgt (pc := 22) 55 d29_22 (by decide) (fun c22 => ?_) (fun c22 => ?_)
    · refine je_bipush (pc := 55) (v := -2) d29_55 rfl ?_
      refine je_iret (pc := 57) d29_57 rfl ?_
      exact ⟨rfl, rfl⟩
    · refine je_aload0 (pc := 25) d29_25 rfl ?_
      refine je_iload2 (pc := 26) d29_26 rfl ?_
      refine ju_callv (pc := 27) (as := [_]) d29_27 jL_0_120 jM_Db_isMile rfl (by decide) (sK1 H) rfl (by exact Nat.le_of_ble_eq_true rfl) (t_Db_isMile (d + 0) H hr P _) (fun r27 h27 q27 => ?_)
      obtain ⟨rfl, e27⟩ := q27
      obtain rfl := e27.symm
      refine je_ifeq (pc := 30) 55 d29_30 (by decide) (fun c30 => ?_) (fun c30 => ?_)
      · refine je_bipush (pc := 55) (v := -2) d29_55 rfl ?_
        refine je_iret (pc := 57) d29_57 rfl ?_
        exact ⟨rfl, rfl⟩
      · refine je_iload3 (pc := 33) d29_33 rfl ?_
        refine je_iflt (pc := 34) 55 d29_34 (by decide) (fun c34 => ?_) (fun c34 => ?_)
        · refine je_bipush (pc := 55) (v := -2) d29_55 rfl ?_
          refine je_iret (pc := 57) d29_57 rfl ?_
          exact ⟨rfl, rfl⟩
        · refine je_iload3 (pc := 37) d29_37 rfl ?_
          refine je_bipush (pc := 38) (v := 99) d29_38 rfl ?_
          refine je_icgt (pc := 40) 55 d29_40 (by decide) (fun c40 => ?_) (fun c40 => ?_)
          · refine je_bipush (pc := 55) (v := -2) d29_55 rfl ?_
            refine je_iret (pc := 57) d29_57 rfl ?_
            exact ⟨rfl, rfl⟩
          · refine je_aload0 (pc := 43) d29_43 rfl ?_
            refine ju_getr (pc := 44) (b := 26) d29_44 jF_0_41 rfl (sK1 H) (sR1_5 H) ?_
            refine ju_geti (pc := 47) d29_47 jF_0_248 rfl (sK26 H) ?_
            refine je_bipush (pc := 50) (v := 10) d29_50 rfl ?_
            refine je_iclt (pc := 52) 58 d29_52 (by decide) (fun c52 => ?_) (fun c52 => ?_)
            · exact absurd ⟨c16, c22, b2_n c30, c34, c40, c52⟩ G
            · refine je_bipush (pc := 55) (v := -2) d29_55 rfl ?_
              refine je_iret (pc := 57) d29_57 rfl ?_
              exact ⟨rfl, rfl⟩
set_option maxHeartbeats 2000000 in
theorem t_Db_log (d : Nat) {bc bs : Nat} {h : jx_H} {s : Nat} (H : jx_St h) (hr : h.2.2.2 26 0 = some s) (P : jx_Sp h s) {k : Nat} (x y z : Int32) (hk : h.2.1 26 4 = nI k) (hk2 : k < 10) (h1 : ¬ x = -1) (G : ¬ x < 0 ∧ ¬ 30 < x ∧ (¬ y < 0 ∧ y < h.2.1 s 0) ∧ ¬ z < 0 ∧ ¬ 99 < z ∧ h.2.1 26 4 < 10) : jx_Tr (d + 2) bc bs 29 [.ref 1, .int x, .int y, .int z] h (fun r h' => r = some (.int (nI (k + 1))) ∧ h' = jx_wI (jx_wI (jx_wI (jx_wI h 45 k x) 46 k y) 47 k z) 26 4 (nI (k + 1))) := by
  refine jx_tr jM_Db_log rfl rfl (lv := [some (.ref 1), some (.int x), some (.int y), some (.int z)]) rfl ?_
  refine je_iload1 (pc := 0) d29_0 rfl ?_
  refine je_iconst (pc := 1) (v := -1) d29_1 rfl ?_
  refine je_icne (pc := 2) 15 d29_2 (by decide) (fun c2 => ?_) (fun c2 => absurd c2 (fun z => h1 z))
  refine je_iload1 (pc := 15) d29_15 rfl ?_
  refine je_iflt (pc := 16) 55 d29_16 (by decide) (fun c16 => absurd c16 G.1) (fun c16 => ?_)
  refine je_iload1 (pc := 19) d29_19 rfl ?_
  refine je_bipush (pc := 20) (v := 30) d29_20 rfl ?_
  refine je_icgt (pc := 22) 55 d29_22 (by decide) (fun c22 => absurd c22 G.2.1) (fun c22 => ?_)
  refine je_aload0 (pc := 25) d29_25 rfl ?_
  refine je_iload2 (pc := 26) d29_26 rfl ?_
  refine ju_callv (pc := 27) (as := [_]) d29_27 jL_0_120 jM_Db_isMile rfl (by decide) (sK1 H) rfl (by exact Nat.le_of_ble_eq_true rfl) (t_Db_isMile (d + 0) H hr P _) (fun r27 h27 q27 => ?_)
  obtain ⟨rfl, e27⟩ := q27
  obtain rfl := e27.symm
  refine je_ifeq (pc := 30) 55 d29_30 (by decide) (fun c30 => absurd c30 (fun c => b2_0.mp c G.2.2.1)) (fun c30 => ?_)
  refine je_iload3 (pc := 33) d29_33 rfl ?_
  refine je_iflt (pc := 34) 55 d29_34 (by decide) (fun c34 => absurd c34 G.2.2.2.1) (fun c34 => ?_)
  refine je_iload3 (pc := 37) d29_37 rfl ?_
  refine je_bipush (pc := 38) (v := 99) d29_38 rfl ?_
  refine je_icgt (pc := 40) 55 d29_40 (by decide) (fun c40 => absurd c40 G.2.2.2.2.1) (fun c40 => ?_)
  refine je_aload0 (pc := 43) d29_43 rfl ?_
  refine ju_getr (pc := 44) (b := 26) d29_44 jF_0_41 rfl (sK1 H) (sR1_5 H) ?_
  refine ju_geti (pc := 47) d29_47 jF_0_248 rfl (sK26 H) ?_
  refine je_bipush (pc := 50) (v := 10) d29_50 rfl ?_
  refine je_iclt (pc := 52) 58 d29_52 (by decide) (fun c52 => ?_) (fun c52 => absurd c52 (fun c => c G.2.2.2.2.2))
  refine je_aload0 (pc := 58) d29_58 rfl ?_
  refine ju_getr (pc := 59) (b := 26) d29_59 jF_0_41 rfl (sK1 H) (sR1_5 H) ?_
  refine je_iload1 (pc := 62) d29_62 rfl ?_
  refine je_iload2 (pc := 63) d29_63 rfl ?_
  refine je_iload3 (pc := 64) d29_64 rfl ?_
  refine ju_callv (pc := 65) (as := [_, _, _]) d29_65 jL_0_251 jM_Wo_addLog rfl (by decide) (sK26 H) rfl (by exact Nat.le_of_ble_eq_true rfl) (t_Wo_addLog (d + 0) H x y z hk hk2) (fun r65 h65 q65 => ?_)
  obtain ⟨rfl, e65⟩ := q65
  obtain rfl := e65.symm
  refine je_aload0 (pc := 68) d29_68 rfl ?_
  refine ju_getr (pc := 69) (b := 26) d29_69 jF_0_41 rfl (sK1 H) (sR1_5 H) ?_
  refine ju_geti (pc := 72) d29_72 jF_0_248 rfl (sK26 H) ?_
  refine ju_eqi (v := nI (k + 1)) (by rw [wI_at, jx_up_self]) ?_
  refine je_iret (pc := 75) d29_75 rfl ?_
  exact ⟨rfl, rfl⟩
theorem in_0 (x : Int32) {n : Nat} (hn : n < 2 ^ 31) : b2 ((0 : Int64) ≤ x.toInt64 ∧ x.toInt64 ≤ (nI n).toInt64) = b2 (¬ x < 0 ∧ ¬ nI n < x) := by
  refine b2_c ?_
  rw [show (0 : Int64) = (0 : Int32).toInt64 from rfl, fa_wide_le, fa_wide_le, fa_le, fa_le, fa_lt, fa_lt]
  omega
set_option maxHeartbeats 2000000 in
theorem t_Mo_log_c (d : Nat) {bc bs : Nat} {h : jx_H} (H : jx_St h) (y z : Int32) : jx_Tr (d + 3) bc bs 12098 [.ref 253, .int (-1), .int y, .int z] h (fun r h' => r = some (.int 0) ∧ h' = jx_wI h 254 6 0) := by
  refine jx_tr jM_Mo_log rfl rfl (lv := [some (.ref 253), some (.int (-1)), some (.int y), some (.int z), none]) rfl ?_
  refine je_iload1 (pc := 0) d12098_0 rfl ?_
  refine je_iconst (pc := 1) (v := -1) d12098_1 rfl ?_
  refine je_icne (pc := 2) 15 d12098_2 (by decide) (fun c2 => absurd c2 (fun z => z rfl)) (fun c2 => ?_)
  refine je_aload0 (pc := 5) d12098_5 rfl ?_
  refine ju_getr (pc := 6) (b := 254) d12098_6 jF_12_9 rfl (sK253 H) (sR253_1 H) ?_
  refine je_bipush (pc := 9) (v := 6) d12098_9 rfl ?_
  refine je_iconst (pc := 11) (v := 0) d12098_11 rfl ?_
  refine ju_iast (pc := 12) (jn := 6) d12098_12 (sK254 H) (by first | assumption | exact jx_ok_dec (by decide)) (by decide) ?_
  refine je_iconst (pc := 13) (v := 0) d12098_13 rfl ?_
  refine je_iret (pc := 14) d12098_14 rfl ?_
  exact ⟨rfl, rfl⟩
set_option maxHeartbeats 2000000 in
theorem t_Mo_log_n (d : Nat) {bc bs : Nat} {h : jx_H} {mi k : Nat} (H : jx_St h) (x y z : Int32) (hm : h.2.1 254 0 = nI mi) (hmi : mi ≤ 10) (hk : h.2.1 254 6 = nI k) (h1 : ¬ x = -1) (G : ¬ ((¬ x < 0 ∧ ¬ 30 < x) ∧ isM y mi ∧ (¬ z < 0 ∧ ¬ 99 < z) ∧ ¬ nI k = 10)) : jx_Tr (d + 3) bc bs 12098 [.ref 253, .int x, .int y, .int z] h (fun r h' => r = some (.int (-2)) ∧ h' = h) := by
  refine jx_tr jM_Mo_log rfl rfl (lv := [some (.ref 253), some (.int x), some (.int y), some (.int z), none]) rfl ?_
  refine je_iload1 (pc := 0) d12098_0 rfl ?_
  refine je_iconst (pc := 1) (v := -1) d12098_1 rfl ?_
  refine je_icne (pc := 2) 15 d12098_2 (by decide) (fun c2 => ?_) (fun c2 => absurd c2 (fun z => h1 z))
  refine je_aload0 (pc := 15) d12098_15 rfl ?_
  refine ju_getr (pc := 16) (b := 254) d12098_16 jF_12_9 rfl (sK253 H) (sR253_1 H) ?_
  refine je_bipush (pc := 19) (v := 6) d12098_19 rfl ?_
  refine ju_iald (pc := 21) (jn := 6) d12098_21 (sK254 H) (by first | assumption | exact jx_ok_dec (by decide)) (by decide) ?_
  refine ju_eqi (v := nI k) hk ?_
  refine ju_istore (pc := 22) (lv' := [some _, some _, some _, some _, some _]) d12098_22 rfl rfl ?_
  refine je_iload1 (pc := 24) d12098_24 rfl ?_
  refine je_i2l (pc := 25) d12098_25 ?_
  refine je_lconst0 (pc := 26) d12098_26 ?_
  refine je_ldc2 (pc := 27) d12098_27 jK_12_531 ?_
  refine ju_calls (pc := 30) (as := [_, _, _]) d12098_30 jL_12_170 jM_Mo_in rfl rfl (by exact Nat.le_of_ble_eq_true rfl) (t_Mo_in (d + 1) _ _ _) (fun r30 h30 q30 => ?_)
  obtain ⟨rfl, e30⟩ := q30
  obtain rfl := e30.symm
  refine ju_eqi (v := b2 (¬ x < 0 ∧ ¬ 30 < x)) (in_0 x (n := 30) (by decide)) ?_
  refine je_ifeq (pc := 33) 63 d12098_33 (by decide) (fun c33 => ?_) (fun c33 => ?_)
  · refine je_bipush (pc := 63) (v := -2) d12098_63 rfl ?_
    refine je_iret (pc := 65) d12098_65 rfl ?_
    exact ⟨rfl, rfl⟩
  · refine je_aload0 (pc := 36) d12098_36 rfl ?_
    refine je_iload2 (pc := 37) d12098_37 rfl ?_
    refine ju_callv (pc := 38) (as := [_]) d12098_38 jL_12_178 jM_Mo_isMile rfl (by decide) (sK253 H) rfl (by exact Nat.le_of_ble_eq_true rfl) (t_Mo_isMile (d + 0) H _ hm (by omega)) (fun r38 h38 q38 => ?_)
    obtain ⟨rfl, e38⟩ := q38
    obtain rfl := e38.symm
    refine je_ifeq (pc := 41) 63 d12098_41 (by decide) (fun c41 => ?_) (fun c41 => ?_)
    · refine je_bipush (pc := 63) (v := -2) d12098_63 rfl ?_
      refine je_iret (pc := 65) d12098_65 rfl ?_
      exact ⟨rfl, rfl⟩
    · refine je_iload3 (pc := 44) d12098_44 rfl ?_
      refine je_i2l (pc := 45) d12098_45 ?_
      refine je_lconst0 (pc := 46) d12098_46 ?_
      refine je_ldc2 (pc := 47) d12098_47 jK_12_473 ?_
      refine ju_calls (pc := 50) (as := [_, _, _]) d12098_50 jL_12_170 jM_Mo_in rfl rfl (by exact Nat.le_of_ble_eq_true rfl) (t_Mo_in (d + 1) _ _ _) (fun r50 h50 q50 => ?_)
      obtain ⟨rfl, e50⟩ := q50
      obtain rfl := e50.symm
      refine ju_eqi (v := b2 (¬ z < 0 ∧ ¬ 99 < z)) (in_0 z (n := 99) (by decide)) ?_
      refine je_ifeq (pc := 53) 63 d12098_53 (by decide) (fun c53 => ?_) (fun c53 => ?_)
      · refine je_bipush (pc := 63) (v := -2) d12098_63 rfl ?_
        refine je_iret (pc := 65) d12098_65 rfl ?_
        exact ⟨rfl, rfl⟩
      · refine je_iload (pc := 56) d12098_56 rfl ?_
        refine je_bipush (pc := 58) (v := 10) d12098_58 rfl ?_
        refine je_icne (pc := 60) 66 d12098_60 (by decide) (fun c60 => ?_) (fun c60 => ?_)
        · exact absurd ⟨b2_n c33, b2_n c41, b2_n c53, c60⟩ G
        · refine je_bipush (pc := 63) (v := -2) d12098_63 rfl ?_
          refine je_iret (pc := 65) d12098_65 rfl ?_
          exact ⟨rfl, rfl⟩
set_option maxHeartbeats 2000000 in
theorem t_Mo_log (d : Nat) {bc bs : Nat} {h : jx_H} {mi k : Nat} (H : jx_St h) (x y z : Int32) (hm : h.2.1 254 0 = nI mi) (hmi : mi ≤ 10) (hk : h.2.1 254 6 = nI k) (hk2 : k < 10) (h1 : ¬ x = -1) (G : (¬ x < 0 ∧ ¬ 30 < x) ∧ isM y mi ∧ (¬ z < 0 ∧ ¬ 99 < z) ∧ ¬ nI k = 10) : jx_Tr (d + 3) bc bs 12098 [.ref 253, .int x, .int y, .int z] h (fun r h' => r = some (.int (nI (k + 1))) ∧ h' = jx_wI (jx_wI (jx_wI (jx_wI h 265 k x) 266 k y) 267 k z) 254 6 (nI (k + 1))) := by
  refine jx_tr jM_Mo_log rfl rfl (lv := [some (.ref 253), some (.int x), some (.int y), some (.int z), none]) rfl ?_
  refine je_iload1 (pc := 0) d12098_0 rfl ?_
  refine je_iconst (pc := 1) (v := -1) d12098_1 rfl ?_
  refine je_icne (pc := 2) 15 d12098_2 (by decide) (fun c2 => ?_) (fun c2 => absurd c2 (fun z => h1 z))
  refine je_aload0 (pc := 15) d12098_15 rfl ?_
  refine ju_getr (pc := 16) (b := 254) d12098_16 jF_12_9 rfl (sK253 H) (sR253_1 H) ?_
  refine je_bipush (pc := 19) (v := 6) d12098_19 rfl ?_
  refine ju_iald (pc := 21) (jn := 6) d12098_21 (sK254 H) (by first | assumption | exact jx_ok_dec (by decide)) (by decide) ?_
  refine ju_eqi (v := nI k) hk ?_
  refine ju_istore (pc := 22) (lv' := [some _, some _, some _, some _, some _]) d12098_22 rfl rfl ?_
  refine je_iload1 (pc := 24) d12098_24 rfl ?_
  refine je_i2l (pc := 25) d12098_25 ?_
  refine je_lconst0 (pc := 26) d12098_26 ?_
  refine je_ldc2 (pc := 27) d12098_27 jK_12_531 ?_
  refine ju_calls (pc := 30) (as := [_, _, _]) d12098_30 jL_12_170 jM_Mo_in rfl rfl (by exact Nat.le_of_ble_eq_true rfl) (t_Mo_in (d + 1) _ _ _) (fun r30 h30 q30 => ?_)
  obtain ⟨rfl, e30⟩ := q30
  obtain rfl := e30.symm
  refine ju_eqi (v := b2 (¬ x < 0 ∧ ¬ 30 < x)) (in_0 x (n := 30) (by decide)) ?_
  refine je_ifeq (pc := 33) 63 d12098_33 (by decide) (fun c33 => absurd c33 (fun c => b2_0.mp c G.1)) (fun c33 => ?_)
  refine je_aload0 (pc := 36) d12098_36 rfl ?_
  refine je_iload2 (pc := 37) d12098_37 rfl ?_
  refine ju_callv (pc := 38) (as := [_]) d12098_38 jL_12_178 jM_Mo_isMile rfl (by decide) (sK253 H) rfl (by exact Nat.le_of_ble_eq_true rfl) (t_Mo_isMile (d + 0) H _ hm (by omega)) (fun r38 h38 q38 => ?_)
  obtain ⟨rfl, e38⟩ := q38
  obtain rfl := e38.symm
  refine je_ifeq (pc := 41) 63 d12098_41 (by decide) (fun c41 => absurd c41 (fun c => b2_0.mp c G.2.1)) (fun c41 => ?_)
  refine je_iload3 (pc := 44) d12098_44 rfl ?_
  refine je_i2l (pc := 45) d12098_45 ?_
  refine je_lconst0 (pc := 46) d12098_46 ?_
  refine je_ldc2 (pc := 47) d12098_47 jK_12_473 ?_
  refine ju_calls (pc := 50) (as := [_, _, _]) d12098_50 jL_12_170 jM_Mo_in rfl rfl (by exact Nat.le_of_ble_eq_true rfl) (t_Mo_in (d + 1) _ _ _) (fun r50 h50 q50 => ?_)
  obtain ⟨rfl, e50⟩ := q50
  obtain rfl := e50.symm
  refine ju_eqi (v := b2 (¬ z < 0 ∧ ¬ 99 < z)) (in_0 z (n := 99) (by decide)) ?_
  refine je_ifeq (pc := 53) 63 d12098_53 (by decide) (fun c53 => absurd c53 (fun c => b2_0.mp c G.2.2.1)) (fun c53 => ?_)
  refine je_iload (pc := 56) d12098_56 rfl ?_
  refine je_bipush (pc := 58) (v := 10) d12098_58 rfl ?_
  refine je_icne (pc := 60) 66 d12098_60 (by decide) (fun c60 => ?_) (fun c60 => absurd c60 (fun c => G.2.2.2 c))
  refine je_aload0 (pc := 66) d12098_66 rfl ?_
  refine ju_getr (pc := 67) (b := 265) d12098_67 jF_12_43 rfl (sK253 H) (sR253_12 H) ?_
  refine je_iload (pc := 70) d12098_70 rfl ?_
  refine je_iload1 (pc := 72) d12098_72 rfl ?_
  refine ju_iast (pc := 73) (jn := k) d12098_73 (sK265 H) (vp_in_nI (by omega) (by decide)) (nI_clamp (by omega)) ?_
  refine je_aload0 (pc := 74) d12098_74 rfl ?_
  refine ju_getr (pc := 75) (b := 266) d12098_75 jF_12_46 rfl (sK253 H.wI) (sR253_13 H.wI) ?_
  refine je_iload (pc := 78) d12098_78 rfl ?_
  refine je_iload2 (pc := 80) d12098_80 rfl ?_
  refine ju_iast (pc := 81) (jn := k) d12098_81 (sK266 H.wI) (vp_in_nI (by omega) (by decide)) (nI_clamp (by omega)) ?_
  refine je_aload0 (pc := 82) d12098_82 rfl ?_
  refine ju_getr (pc := 83) (b := 267) d12098_83 jF_12_49 rfl (sK253 H.wI.wI) (sR253_14 H.wI.wI) ?_
  refine je_iload (pc := 86) d12098_86 rfl ?_
  refine je_iload3 (pc := 88) d12098_88 rfl ?_
  refine ju_iast (pc := 89) (jn := k) d12098_89 (sK267 H.wI.wI) (vp_in_nI (by omega) (by decide)) (nI_clamp (by omega)) ?_
  refine je_aload0 (pc := 90) d12098_90 rfl ?_
  refine ju_getr (pc := 91) (b := 254) d12098_91 jF_12_9 rfl (sK253 H.wI.wI.wI) (sR253_1 H.wI.wI.wI) ?_
  refine je_bipush (pc := 94) (v := 6) d12098_94 rfl ?_
  refine je_dup2 (pc := 96) d12098_96 rfl rfl ?_
  refine ju_iald (pc := 97) (jn := 6) d12098_97 (sK254 H.wI.wI.wI) (by first | assumption | exact jx_ok_dec (by decide)) (by decide) ?_
  refine ju_eqi (v := nI k) (by rw [wI_ne _ _ _ (by decide), wI_ne _ _ _ (by decide), wI_ne _ _ _ (by decide)]; exact hk) ?_
  refine je_iconst (pc := 98) (v := 1) d12098_98 rfl ?_
  refine je_iadd (pc := 99) d12098_99 ?_
  refine ju_eqi (v := nI (k + 1)) (nI_1 k) ?_
  refine ju_iast (pc := 100) (jn := 6) d12098_100 (sK254 H.wI.wI.wI) (by first | assumption | exact jx_ok_dec (by decide)) (by decide) ?_
  refine je_iload (pc := 101) d12098_101 rfl ?_
  refine je_iconst (pc := 103) (v := 1) d12098_103 rfl ?_
  refine je_iadd (pc := 104) d12098_104 ?_
  refine ju_eqi (v := nI (k + 1)) (nI_1 k) ?_
  refine je_iret (pc := 105) d12098_105 rfl ?_
  exact ⟨rfl, rfl⟩
theorem op_log (x y z : Int32) : jo Inv 29 12098 [.int x, .int y, .int z] := jo_st (fun n h t nr rs X Y hn q => by
  obtain ⟨s, r1, r2, r3, ⟨⟨a1, -⟩, -⟩, r5⟩ := q.cl
  obtain ⟨Q1, Q2, Q3, Q4, Q5, Q6, Q7, Q8, Q9⟩ := id q
  obtain ⟨-, -, f1, ⟨g1, g2⟩, p1⟩ := id Q5
  obtain ⟨b1, -, -⟩ := q.mi
  obtain ⟨w1, w2, w3, w4, ⟨w5, w5'⟩, w6⟩ := Q7.up (Nat.le_succ n) (Nat.le_refl nr)
  have nr4 : ∀ b, b = 26 ∨ b = 45 ∨ b = 46 ∨ b = 47 → cRow b ∧ ¬ sRow b := by intro b hb; unfold cRow kRow sRow; omega
  by_cases hx : x = -1
  · subst hx
    refine ⟨0, (X.1, X.2.1, X.2.2.1, (0, X.2.2.2.1.2), X.2.2.2.2), h, q.B, ⟨rfl, rfl⟩, ⟨w1, w2, w3, w4, ⟨Nat.zero_le 10, fun k hk => absurd hk (Nat.not_lt_zero k)⟩, w6⟩, Q8.of rfl rfl rfl, (t_Db_log_c 197 q.1 y z).mono (fun r h1 e => ?_), fun h1 S1 e1 m1 => (t_Mo_log_c 196 S1 y z).mono (fun r h2 e => ?_)⟩
    · obtain ⟨rfl, rfl⟩ := e
      refine ⟨rfl, fC.rf.wI (nr4 26 (by omega)).1, Q5.ch (A := fun b => b = 26) (fC.rf.wI rfl) (fun b e => by rw [e]; exact nsR26) rfl (r5.of (fun b h1 h2 => wI_ne _ _ _ (by omega))) ?_ ⟨?_, fun k hk => absurd hk (Nat.not_lt_zero k)⟩ ?_⟩
      · rw [wI_at, jx_up_ne _ _ (by decide), jx_up_ne _ _ (by decide)]; exact f1
      · rw [wI_at, jx_up_self]; rfl
      · rw [wI_at, jx_up_ne _ _ (by decide), jx_up_ne _ _ (by decide), wI_ne _ _ _ (show 26 + 22 ≠ 26 by decide)]; exact p1
    · obtain ⟨rfl, rfl⟩ := e
      refine ⟨rfl, fM.rf.wI (by unfold mRow; omega), m1.mk rfl (fun a ha => wI_ne _ _ _ (by omega)) (fun j hj => by rw [wI_at, jx_up_ne _ _ (by omega)]) (m1.la.of (wI_ne _ _ _ (by decide)) (wI_ne _ _ _ (by decide)) (wI_ne _ _ _ (by decide)) (wI_ne _ _ _ (by decide)) (by rw [wI_at, jx_up_ne _ _ (by decide)]) (by rw [wI_at, jx_up_ne _ _ (by decide)])) ?_ ⟨?_, fun k hk => absurd hk (Nat.not_lt_zero k)⟩ ?_⟩
      · rw [wI_at, jx_up_ne _ _ (by decide), jx_up_ne _ _ (by decide)]; exact m1.fx
      · rw [wI_at, jx_up_self]; rfl
      · rw [wI_ne _ _ _ (by decide), wI_ne _ _ _ (by decide)]; exact m1.pa
  · by_cases G : (¬ x < 0 ∧ ¬ 30 < x) ∧ isM y X.1.1.1 ∧ (¬ z < 0 ∧ ¬ 99 < z) ∧ ¬ nI X.2.2.2.1.1 = 10
    · have hk : X.2.2.2.1.1 < 10 := by
        rcases Nat.lt_or_ge X.2.2.2.1.1 10 with c | c
        · exact c
        · exact absurd (by rw [show X.2.2.2.1.1 = 10 by omega]; rfl) G.2.2.2
      have GC : ¬ x < 0 ∧ ¬ 30 < x ∧ (¬ y < 0 ∧ y < h.2.1 s 0) ∧ ¬ z < 0 ∧ ¬ 99 < z ∧ h.2.1 26 4 < 10 := ⟨G.1.1, G.1.2, by rw [a1]; exact G.2.1, G.2.2.1.1, G.2.2.1.2, by rw [g1]; exact nI_lt (b := 10) hk (by decide)⟩
      obtain ⟨a, ha, rfl⟩ := nI_of G.1.1
      have ha2 : ¬ 30 < a := fun c => G.1.2 (nI_lt (a := 30) c ha)
      obtain ⟨m, hm, rfl⟩ := isM_of G.2.1 (by omega)
      obtain ⟨e, he, rfl⟩ := nI_of G.2.2.1.1
      have he2 : ¬ 99 < e := fun c => G.2.2.1.2 (nI_lt (a := 99) c he)
      refine ⟨nI (X.2.2.2.1.1 + 1), (X.1, X.2.1, X.2.2.1, (X.2.2.2.1.1 + 1, jx_up X.2.2.2.1.2.1 X.2.2.2.1.1 (nI a), jx_up X.2.2.2.1.2.2.1 X.2.2.2.1.1 (nI m), jx_up X.2.2.2.1.2.2.2 X.2.2.2.1.1 (nI e)), X.2.2.2.2), h, q.B, ⟨rfl, rfl⟩, ⟨w1, w2, w3, w4, ⟨by show X.2.2.2.1.1 + 1 ≤ 10; omega, fun k hk2 => ?_⟩, w6⟩, Q8.of rfl rfl rfl, (t_Db_log 197 q.1 r1 r3 _ _ _ g1 hk hx GC).mono (fun r h1 e => ?_), fun h1 S1 e1 m1 => (t_Mo_log 196 S1 (mi := X.1.1.1) (k := X.2.2.2.1.1) _ _ _ m1.st.1.1 b1 m1.lg.1 hk hx G).mono (fun r h2 e => ?_)⟩
      · by_cases c : k = X.2.2.2.1.1
        · show (∃ a', a' ≤ 30 ∧ jx_up _ _ _ k = nI a') ∧ (∃ a', a' < _ ∧ jx_up _ _ _ k = nI a') ∧ (∃ a', a' ≤ 99 ∧ jx_up _ _ _ k = nI a')
          rw [c, jx_up_self, jx_up_self, jx_up_self]
          exact ⟨⟨a, by omega, rfl⟩, ⟨m, hm, rfl⟩, ⟨e, by omega, rfl⟩⟩
        · show (∃ a', a' ≤ 30 ∧ jx_up _ _ _ k = nI a') ∧ (∃ a', a' < _ ∧ jx_up _ _ _ k = nI a') ∧ (∃ a', a' ≤ 99 ∧ jx_up _ _ _ k = nI a')
          rw [jx_up_ne _ _ c, jx_up_ne _ _ c, jx_up_ne _ _ c]
          exact w5' k (by have : k < X.2.2.2.1.1 + 1 := hk2; omega)
      · obtain ⟨rfl, rfl⟩ := e
        refine ⟨rfl, (((fC.rf.wI (nr4 45 (by omega)).1).wI (nr4 46 (by omega)).1).wI (nr4 47 (by omega)).1).wI (nr4 26 (by omega)).1, Q5.ch (A := fun b => b = 26 ∨ b = 45 ∨ b = 46 ∨ b = 47) ((((fC.rf.wI (by omega)).wI (by omega)).wI (by omega)).wI (by omega)) (fun b hb => (nr4 b hb).2) rfl (r5.of (fun b h1 h2 => by rw [wI_ne _ _ _ (by omega), wI_ne _ _ _ (by omega), wI_ne _ _ _ (by omega), wI_ne _ _ _ (by omega)])) ?_ ⟨?_, fun k hk2 => ?_⟩ ?_⟩
        · rw [wI_at, jx_up_ne _ _ (by decide), jx_up_ne _ _ (by decide), wI_ne _ _ _ (by decide), wI_ne _ _ _ (by decide), wI_ne _ _ _ (by decide)]; exact f1
        · rw [wI_at, jx_up_self]
        · rw [wI_ne _ _ _ (show 26 + 19 ≠ 26 by decide), wI_ne _ _ _ (show 26 + 19 ≠ 47 by decide), wI_ne _ _ _ (show 26 + 19 ≠ 46 by decide), wI_at, wI_ne _ _ _ (show 26 + 20 ≠ 26 by decide), wI_ne _ _ _ (show 26 + 20 ≠ 47 by decide), wI_at, wI_ne _ _ _ (show 46 ≠ 45 by decide), wI_ne _ _ _ (show 26 + 21 ≠ 26 by decide), wI_at, wI_ne _ _ _ (show 47 ≠ 46 by decide), wI_ne _ _ _ (show 47 ≠ 45 by decide)]
          by_cases c : k = X.2.2.2.1.1
          · rw [c]; simp only [jx_up_self, and_self]
          · have g3 := g2 k (by have : k < X.2.2.2.1.1 + 1 := hk2; omega)
            show jx_up _ _ _ k = jx_up _ _ _ k ∧ jx_up _ _ _ k = jx_up _ _ _ k ∧ jx_up _ _ _ k = jx_up _ _ _ k
            simp only [jx_up_ne _ _ c]
            exact g3
        · rw [wI_at, jx_up_ne _ _ (by decide), jx_up_ne _ _ (by decide), wI_ne _ _ _ (by decide), wI_ne _ _ _ (by decide), wI_ne _ _ _ (by decide), wI_ne _ _ _ (show 26 + 22 ≠ 26 by decide), wI_ne _ _ _ (show 26 + 22 ≠ 47 by decide), wI_ne _ _ _ (show 26 + 22 ≠ 46 by decide), wI_ne _ _ _ (show 26 + 22 ≠ 45 by decide)]; exact p1
      · obtain ⟨rfl, rfl⟩ := e
        have kk : ∀ b, b ≠ 254 → b ≠ 265 → b ≠ 266 → b ≠ 267 → (jx_wI (jx_wI (jx_wI (jx_wI h1 265 X.2.2.2.1.1 (nI a)) 266 X.2.2.2.1.1 (nI m)) 267 X.2.2.2.1.1 (nI e)) 254 6 (nI (X.2.2.2.1.1 + 1))).2.1 b = h1.2.1 b := fun b h1 h2 h3 h4 => by rw [wI_ne _ _ _ h1, wI_ne _ _ _ h4, wI_ne _ _ _ h3, wI_ne _ _ _ h2]
        have kj : ∀ j, j ≠ 6 → (jx_wI (jx_wI (jx_wI (jx_wI h1 265 X.2.2.2.1.1 (nI a)) 266 X.2.2.2.1.1 (nI m)) 267 X.2.2.2.1.1 (nI e)) 254 6 (nI (X.2.2.2.1.1 + 1))).2.1 254 j = h1.2.1 254 j := fun j hj => by rw [wI_at, jx_up_ne _ _ hj, wI_ne _ _ _ (by decide), wI_ne _ _ _ (by decide), wI_ne _ _ _ (by decide)]
        refine ⟨rfl, (((fM.rf.wI (by unfold mRow; omega)).wI (by unfold mRow; omega)).wI (by unfold mRow; omega)).wI (by unfold mRow; omega), m1.mk rfl (fun a ha => kk a (by omega) (by omega) (by omega) (by omega)) (fun j hj => kj j (by omega)) (m1.la.of (kk _ (by decide) (by decide) (by decide) (by decide)) (kk _ (by decide) (by decide) (by decide) (by decide)) (kk _ (by decide) (by decide) (by decide) (by decide)) (kk _ (by decide) (by decide) (by decide) (by decide)) (kj _ (by decide)) (kj _ (by decide))) ?_ ⟨?_, fun k hk2 => ?_⟩ ?_⟩
        · rw [kj _ (by decide), kj _ (by decide)]; exact m1.fx
        · rw [wI_at, jx_up_self]
        · rw [wI_ne _ _ _ (show 265 ≠ 254 by decide), wI_ne _ _ _ (show 265 ≠ 267 by decide), wI_ne _ _ _ (show 265 ≠ 266 by decide), wI_at, wI_ne _ _ _ (show 266 ≠ 254 by decide), wI_ne _ _ _ (show 266 ≠ 267 by decide), wI_at, wI_ne _ _ _ (show 266 ≠ 265 by decide), wI_ne _ _ _ (show 267 ≠ 254 by decide), wI_at, wI_ne _ _ _ (show 267 ≠ 266 by decide), wI_ne _ _ _ (show 267 ≠ 265 by decide)]
          by_cases c : k = X.2.2.2.1.1
          · rw [c]; simp only [jx_up_self, and_self]
          · have g3 := m1.lg.2 k (by have : k < X.2.2.2.1.1 + 1 := hk2; omega)
            show jx_up _ _ _ k = jx_up _ _ _ k ∧ jx_up _ _ _ k = jx_up _ _ _ k ∧ jx_up _ _ _ k = jx_up _ _ _ k
            simp only [jx_up_ne _ _ c]
            exact g3
        · rw [kk _ (by decide) (by decide) (by decide) (by decide), kk _ (by decide) (by decide) (by decide) (by decide)]; exact m1.pa
    · refine ⟨-2, X, h, q.B, ⟨rfl, rfl⟩, ⟨w1, w2, w3, w4, ⟨w5, w5'⟩, w6⟩, Q8, (t_Db_log_n 197 q.1 r1 r3 x y z hx (fun c => G ⟨⟨c.1, c.2.1⟩, by have := c.2.2.1; rw [a1] at this; exact this, ⟨c.2.2.2.1, c.2.2.2.2.1⟩, fun d => by have := c.2.2.2.2.2; rw [g1, d] at this; exact absurd this (by decide)⟩)).mono (fun r h1 e => ?_), fun h1 S1 e1 m1 => (t_Mo_log_n 196 S1 (mi := X.1.1.1) (k := X.2.2.2.1.1) x y z m1.st.1.1 b1 m1.lg.1 hx G).mono (fun r h2 e => ?_)⟩
      · obtain ⟨rfl, rfl⟩ := e
        exact ⟨rfl, fC.rf, Q5⟩
      · obtain ⟨rfl, rfl⟩ := e
        exact ⟨rfl, fM.rf, m1⟩)
