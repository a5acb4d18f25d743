/-! the model: movesAll, keepsAct, undo -/
set_option maxHeartbeats 2000000 in
theorem t_Mo_movesAll (d : Nat) {bc bs : Nat} {h : jx_H} {k : Nat} (H : jx_St h) (hk : k < 20) : jx_Tr (d + 3) bc bs 12052 [.ref 253, .int (nI k), .int 0] h (fun r h' => r = none ∧ fC (fun b => b = 292 ∨ b = 253) h h' ∧ (∀ j, j ≠ 52 → j ≠ 53 → h'.2.1 253 j = h.2.1 253 j) ∧ (∀ L, mLa h.2.1 L → mP (fun j => h'.2.1 292 (40 * k + j)) L) ∧ ∀ i, i < 40 * k ∨ 40 * k + 40 ≤ i → h'.2.1 292 i = h.2.1 292 i) := by
  refine jx_tr jM_Mo_movesAll rfl rfl (lv := [some (.ref 253), some (.int (nI k)), some (.int 0)]) rfl ?_
  refine je_aload0 (pc := 0) d12052_0 rfl ?_
  refine je_bipush (pc := 1) (v := 40) d12052_1 rfl ?_
  refine je_iload1 (pc := 3) d12052_3 rfl ?_
  refine je_imul (pc := 4) d12052_4 ?_
  refine ju_eqi (v := nI (40 * k)) (pk_mul 40 k) ?_
  refine ju_puti (pc := 5) d12052_5 jF_12_446 rfl (sK253 H) ?_
  refine je_aload0 (pc := 8) d12052_8 rfl ?_
  refine je_iload2 (pc := 9) d12052_9 rfl ?_
  refine ju_putz (pc := 10) d12052_10 jF_12_442 rfl (by decide) (sK253 H.wI) ?_
  refine je_aload0 (pc := 13) d12052_13 rfl ?_
  refine ju_getr (pc := 14) (b := 254) d12052_14 jF_12_9 rfl (sK253 H.wI.wI) (sR253_1 H.wI.wI) ?_
  refine je_iconst (pc := 17) (v := 4) d12052_17 rfl ?_
  refine je_aload0 (pc := 18) d12052_18 rfl ?_
  refine je_aload0 (pc := 19) d12052_19 rfl ?_
  refine ju_getr (pc := 20) (b := 254) d12052_20 jF_12_9 rfl (sK253 H.wI.wI) (sR253_1 H.wI.wI) ?_
  refine je_iconst (pc := 23) (v := 4) d12052_23 rfl ?_
  refine ju_iald (pc := 24) (jn := 4) d12052_24 (sK254 H.wI.wI) (by first | assumption | exact jx_ok_dec (by decide)) (by decide) ?_
  refine ju_eqi (v := h.2.1 254 4) (by rw [wI_ne _ _ _ (by decide), wI_ne _ _ _ (by decide)]) ?_
  refine ju_callv (pc := 25) (as := [_]) d12052_25 jL_12_449 jM_Mo_moves rfl (by decide) (sK253 H.wI.wI) rfl (by exact Nat.le_of_ble_eq_true rfl) (t_Mo_moves (d + 1) (q := 40 * k) H.wI.wI _ (by rw [wI_at, jx_up_self]) (by rw [wI_at, jx_up_ne _ _ (by decide), wI_at, jx_up_self]) (by omega)) (fun r25 h25 q25 => ?_)
  obtain ⟨rfl, e25⟩ := q25
  subst e25
  refine ju_iast (pc := 28) (jn := 4) d12052_28 (sK254 H.wI.wI.wI.wI) (by first | assumption | exact jx_ok_dec (by decide)) (by decide) ?_
  rw [wI_id (h := (jx_wI (jx_wI (jx_wI (jx_wI h 253 52 (nI (40 * k))) 253 53 0) 292 (40 * k) (h.2.1 254 4)) 253 52 (nI (40 * k + 1)))) (a := 254) (k := 4) (by simp only [wI_ne _ _ _ (show 254 ≠ 253 by decide), wI_ne _ _ _ (show 254 ≠ 292 by decide)])]
  refine je_aload0 (pc := 29) d12052_29 rfl ?_
  refine ju_getr (pc := 30) (b := 254) d12052_30 jF_12_9 rfl (sK253 H.wI.wI.wI.wI) (sR253_1 H.wI.wI.wI.wI) ?_
  refine je_iconst (pc := 33) (v := 5) d12052_33 rfl ?_
  refine je_aload0 (pc := 34) d12052_34 rfl ?_
  refine je_aload0 (pc := 35) d12052_35 rfl ?_
  refine ju_getr (pc := 36) (b := 254) d12052_36 jF_12_9 rfl (sK253 H.wI.wI.wI.wI) (sR253_1 H.wI.wI.wI.wI) ?_
  refine je_iconst (pc := 39) (v := 5) d12052_39 rfl ?_
  refine ju_iald (pc := 40) (jn := 5) d12052_40 (sK254 H.wI.wI.wI.wI) (by first | assumption | exact jx_ok_dec (by decide)) (by decide) ?_
  refine ju_eqi (v := h.2.1 254 5) (by simp only [wI_ne _ _ _ (show 254 ≠ 253 by decide), wI_ne _ _ _ (show 254 ≠ 292 by decide)]) ?_
  refine ju_callv (pc := 41) (as := [_]) d12052_41 jL_12_449 jM_Mo_moves rfl (by decide) (sK253 H.wI.wI.wI.wI) rfl (by exact Nat.le_of_ble_eq_true rfl) (t_Mo_moves (d + 1) (q := 40 * k + 1) H.wI.wI.wI.wI _ (by rw [wI_at, jx_up_ne _ _ (by decide), wI_ne _ _ _ (by decide), wI_at, jx_up_self]) (by rw [wI_at, jx_up_self]) (by omega)) (fun r41 h41 q41 => ?_)
  obtain ⟨rfl, e41⟩ := q41
  subst e41
  refine ju_iast (pc := 44) (jn := 5) d12052_44 (sK254 H.wI.wI.wI.wI.wI.wI) (by first | assumption | exact jx_ok_dec (by decide)) (by decide) ?_
  rw [wI_id (h := (jx_wI (jx_wI (jx_wI (jx_wI (jx_wI (jx_wI h 253 52 (nI (40 * k))) 253 53 0) 292 (40 * k) (h.2.1 254 4)) 253 52 (nI (40 * k + 1))) 292 (40 * k + 1) (h.2.1 254 5)) 253 52 (nI (40 * k + 2)))) (a := 254) (k := 5) (by simp only [wI_ne _ _ _ (show 254 ≠ 253 by decide), wI_ne _ _ _ (show 254 ≠ 292 by decide)])]
  refine je_aload0 (pc := 45) d12052_45 rfl ?_
  refine je_aload0 (pc := 46) d12052_46 rfl ?_
  refine ju_getr (pc := 47) (b := 255) d12052_47 jF_12_13 rfl (sK253 H.wI.wI.wI.wI.wI.wI) (sR253_2 H.wI.wI.wI.wI.wI.wI) ?_
  refine ju_callv (pc := 50) (as := [_]) d12052_50 jL_12_452 jM_Mo_movesRow rfl (by decide) (sK253 H.wI.wI.wI.wI.wI.wI) rfl (by exact Nat.le_of_ble_eq_true rfl) (t_Mo_movesRow d (q := 40 * k + 2) H.wI.wI.wI.wI.wI.wI (sK255 H.wI.wI.wI.wI.wI.wI) (by decide) (by decide) (by rw [wI_at, jx_up_ne _ _ (by decide), wI_ne _ _ _ (by decide), wI_at, jx_up_ne _ _ (by decide), wI_ne _ _ _ (by decide), wI_at, jx_up_self]) (by rw [wI_at, jx_up_self]) (by omega)) (fun r50 h50 q50 => ?_)
  obtain ⟨rfl, a1, a2, a3, a4, a5⟩ := q50
  have H3 := a1.St H.wI.wI.wI.wI.wI.wI
  have ab := (a2 53 (by decide)).trans (by rw [wI_at, jx_up_ne _ _ (by decide), wI_ne _ _ _ (by decide), wI_at, jx_up_ne _ _ (by decide), wI_ne _ _ _ (by decide), wI_at, jx_up_self])
  refine je_aload0 (pc := 53) d12052_53 rfl ?_
  refine je_aload0 (pc := 54) d12052_54 rfl ?_
  refine ju_getr (pc := 55) (b := 256) d12052_55 jF_12_16 rfl (sK253 H3) (sR253_3 H3) ?_
  refine ju_callv (pc := 58) (as := [_]) d12052_58 jL_12_452 jM_Mo_movesRow rfl (by decide) (sK253 H3) rfl (by exact Nat.le_of_ble_eq_true rfl) (t_Mo_movesRow d (q := 40 * k + 2 + 10) H3 (sK256 H3) (by decide) (by decide) ab a3 (by omega)) (fun r58 h58 q58 => ?_)
  obtain ⟨rfl, b1, b2, b3, b4, b5⟩ := q58
  have H4 := b1.St H3
  have bb := (b2 53 (by decide)).trans ab
  refine je_aload0 (pc := 61) d12052_61 rfl ?_
  refine je_aload0 (pc := 62) d12052_62 rfl ?_
  refine ju_getr (pc := 63) (b := 257) d12052_63 jF_12_19 rfl (sK253 H4) (sR253_4 H4) ?_
  refine ju_callv (pc := 66) (as := [_]) d12052_66 jL_12_452 jM_Mo_movesRow rfl (by decide) (sK253 H4) rfl (by exact Nat.le_of_ble_eq_true rfl) (t_Mo_movesRow d (q := 40 * k + 2 + 10 + 10) H4 (sK257 H4) (by decide) (by decide) bb b3 (by omega)) (fun r66 h66 q66 => ?_)
  obtain ⟨rfl, c1, c2, c3, c4, c5⟩ := q66
  have H5 := c1.St H4
  have cb := (c2 53 (by decide)).trans bb
  refine je_aload0 (pc := 69) d12052_69 rfl ?_
  refine je_aload0 (pc := 70) d12052_70 rfl ?_
  refine ju_getr (pc := 71) (b := 262) d12052_71 jF_12_34 rfl (sK253 H5) (sR253_9 H5) ?_
  refine ju_callv (pc := 74) (as := [_]) d12052_74 jL_12_452 jM_Mo_movesRow rfl (by decide) (sK253 H5) rfl (by exact Nat.le_of_ble_eq_true rfl) (t_Mo_movesRow d (q := 40 * k + 2 + 10 + 10 + 10) H5 (sK262 H5) (by decide) (by decide) cb c3 (by omega)) (fun r74 h74 q74 => ?_)
  obtain ⟨rfl, e1, e2, e3, e4, e5⟩ := q74
  have H6 := e1.St H5
  have eb := (e2 53 (by decide)).trans cb
  refine je_ret (pc := 77) d12052_77 rfl ?_
  have z : ∀ b, b ≠ 253 → b ≠ 292 → (jx_wI (jx_wI (jx_wI (jx_wI (jx_wI (jx_wI h 253 52 (nI (40 * k))) 253 53 0) 292 (40 * k) (h.2.1 254 4)) 253 52 (nI (40 * k + 1))) 292 (40 * k + 1) (h.2.1 254 5)) 253 52 (nI (40 * k + 2))).2.1 b = h.2.1 b := fun b h1 h2 => by simp only [wI_ne _ _ _ h1, wI_ne _ _ _ h2]
  have f1 : fC (fun b => b = 292 ∨ b = 253) h (jx_wI (jx_wI (jx_wI (jx_wI (jx_wI (jx_wI h 253 52 (nI (40 * k))) 253 53 0) 292 (40 * k) (h.2.1 254 4)) 253 52 (nI (40 * k + 1))) 292 (40 * k + 1) (h.2.1 254 5)) 253 52 (nI (40 * k + 2))) := ((((((fC.rf.wI (Or.inr rfl)).wI (Or.inr rfl)).wI (Or.inl rfl)).wI (Or.inr rfl)).wI (Or.inl rfl)).wI (Or.inr rfl))
  refine ⟨rfl, f1.tr (a1.tr (b1.tr (c1.tr e1))), fun j h1 h2 => ?_, fun L hL => ?_, fun i hi => ?_⟩
  · rw [e2 j h1, c2 j h1, b2 j h1, a2 j h1]
    simp only [wI_at, wI_ne _ _ _ (show 253 ≠ 292 by decide), jx_up_ne _ _ h1, jx_up_ne _ _ h2]
  · obtain ⟨l1, l2, l3, l4⟩ := hL
    have q0 : ∀ i, i < 40 * k + 2 → h74.2.1 292 i = (jx_wI (jx_wI (jx_wI (jx_wI (jx_wI (jx_wI h 253 52 (nI (40 * k))) 253 53 0) 292 (40 * k) (h.2.1 254 4)) 253 52 (nI (40 * k + 1))) 292 (40 * k + 1) (h.2.1 254 5)) 253 52 (nI (40 * k + 2))).2.1 292 i := fun i hi => by rw [e5 i (by omega), c5 i (by omega), b5 i (by omega), a5 i (by omega)]
    refine ⟨?_, ?_, fun m hm => ⟨?_, ?_, ?_⟩, fun v hv => ?_⟩
    · show h74.2.1 292 (40 * k + 0) = _
      rw [q0 _ (by omega), ← l3]
      simp only [wI_ne _ _ _ (show 292 ≠ 253 by decide), wI_at]
      rw [jx_up_ne _ _ (by omega), Nat.add_zero, jx_up_self]
    · show h74.2.1 292 (40 * k + 1) = _
      rw [q0 _ (by omega), ← l4]
      simp only [wI_ne _ _ _ (show 292 ≠ 253 by decide), wI_at]
      rw [jx_up_self]
    · show h74.2.1 292 (40 * k + (2 + m)) = _
      rw [e5 _ (by omega), c5 _ (by omega), b5 _ (by omega), ← Nat.add_assoc, a4 m hm, z 255 (by decide) (by decide)]; exact (l1 m hm).1
    · show h74.2.1 292 (40 * k + (12 + m)) = _
      rw [e5 _ (by omega), c5 _ (by omega), show 40 * k + (12 + m) = 40 * k + 2 + 10 + m by omega, b4 m hm, a1.2 256 (by decide), z 256 (by decide) (by decide)]; exact (l1 m hm).2.1
    · show h74.2.1 292 (40 * k + (22 + m)) = _
      rw [e5 _ (by omega), show 40 * k + (22 + m) = 40 * k + 2 + 10 + 10 + m by omega, c4 m hm, b1.2 257 (by decide), a1.2 257 (by decide), z 257 (by decide) (by decide)]; exact (l1 m hm).2.2
    · show h74.2.1 292 (40 * k + (32 + v)) = _
      rw [show 40 * k + (32 + v) = 40 * k + 2 + 10 + 10 + 10 + v by omega, e4 v hv, c1.2 262 (by decide), b1.2 262 (by decide), a1.2 262 (by decide), z 262 (by decide) (by decide)]; exact l2 v hv
  · rw [e5 i (by omega), c5 i (by omega), b5 i (by omega), a5 i (by omega)]
    simp only [wI_ne _ _ _ (show 292 ≠ 253 by decide), wI_at]
    rw [jx_up_ne _ _ (by omega), jx_up_ne _ _ (by omega)]
set_option maxHeartbeats 2000000 in
theorem t_Mo_movesAll_b (d : Nat) {bc bs : Nat} {h : jx_H} {k : Nat} (H : jx_St h) (hk : k < 20) : jx_Tr (d + 3) bc bs 12052 [.ref 253, .int (nI k), .int 1] h (fun r h' => r = none ∧ fC (fun b => 253 ≤ b ∧ b ≤ 257 ∨ b = 262) h h' ∧ (∀ j, j ≠ 52 → j ≠ 53 → h'.2.1 253 j = h.2.1 253 j) ∧ (∀ j, j ≠ 4 → j ≠ 5 → h'.2.1 254 j = h.2.1 254 j) ∧ ∀ L, mP (fun j => h.2.1 292 (40 * k + j)) L → mLa h'.2.1 L) := by
  refine jx_tr jM_Mo_movesAll rfl rfl (lv := [some (.ref 253), some (.int (nI k)), some (.int 1)]) rfl ?_
  refine je_aload0 (pc := 0) d12052_0 rfl ?_
  refine je_bipush (pc := 1) (v := 40) d12052_1 rfl ?_
  refine je_iload1 (pc := 3) d12052_3 rfl ?_
  refine je_imul (pc := 4) d12052_4 ?_
  refine ju_eqi (v := nI (40 * k)) (pk_mul 40 k) ?_
  refine ju_puti (pc := 5) d12052_5 jF_12_446 rfl (sK253 H) ?_
  refine je_aload0 (pc := 8) d12052_8 rfl ?_
  refine je_iload2 (pc := 9) d12052_9 rfl ?_
  refine ju_putz (pc := 10) d12052_10 jF_12_442 rfl (by decide) (sK253 H.wI) ?_
  refine je_aload0 (pc := 13) d12052_13 rfl ?_
  refine ju_getr (pc := 14) (b := 254) d12052_14 jF_12_9 rfl (sK253 H.wI.wI) (sR253_1 H.wI.wI) ?_
  refine je_iconst (pc := 17) (v := 4) d12052_17 rfl ?_
  refine je_aload0 (pc := 18) d12052_18 rfl ?_
  refine je_aload0 (pc := 19) d12052_19 rfl ?_
  refine ju_getr (pc := 20) (b := 254) d12052_20 jF_12_9 rfl (sK253 H.wI.wI) (sR253_1 H.wI.wI) ?_
  refine je_iconst (pc := 23) (v := 4) d12052_23 rfl ?_
  refine ju_iald (pc := 24) (jn := 4) d12052_24 (sK254 H.wI.wI) (by first | assumption | exact jx_ok_dec (by decide)) (by decide) ?_
  refine ju_callv (pc := 25) (as := [_]) d12052_25 jL_12_449 jM_Mo_moves rfl (by decide) (sK253 H.wI.wI) rfl (by exact Nat.le_of_ble_eq_true rfl) (t_Mo_moves_b (d + 1) (q := 40 * k) H.wI.wI _ (by rw [wI_at, jx_up_self]) (by rw [wI_at, jx_up_ne _ _ (by decide), wI_at, jx_up_self]) (by omega)) (fun r25 h25 q25 => ?_)
  obtain ⟨rfl, e25⟩ := q25
  subst e25
  refine ju_eqi (v := h.2.1 292 (40 * k)) (by rw [wI_ne _ _ _ (by decide), wI_ne _ _ _ (by decide)]) ?_
  refine ju_iast (pc := 28) (jn := 4) d12052_28 (sK254 H.wI.wI.wI) (by first | assumption | exact jx_ok_dec (by decide)) (by decide) ?_
  refine je_aload0 (pc := 29) d12052_29 rfl ?_
  refine ju_getr (pc := 30) (b := 254) d12052_30 jF_12_9 rfl (sK253 H.wI.wI.wI.wI) (sR253_1 H.wI.wI.wI.wI) ?_
  refine je_iconst (pc := 33) (v := 5) d12052_33 rfl ?_
  refine je_aload0 (pc := 34) d12052_34 rfl ?_
  refine je_aload0 (pc := 35) d12052_35 rfl ?_
  refine ju_getr (pc := 36) (b := 254) d12052_36 jF_12_9 rfl (sK253 H.wI.wI.wI.wI) (sR253_1 H.wI.wI.wI.wI) ?_
  refine je_iconst (pc := 39) (v := 5) d12052_39 rfl ?_
  refine ju_iald (pc := 40) (jn := 5) d12052_40 (sK254 H.wI.wI.wI.wI) (by first | assumption | exact jx_ok_dec (by decide)) (by decide) ?_
  refine ju_callv (pc := 41) (as := [_]) d12052_41 jL_12_449 jM_Mo_moves rfl (by decide) (sK253 H.wI.wI.wI.wI) rfl (by exact Nat.le_of_ble_eq_true rfl) (t_Mo_moves_b (d + 1) (q := 40 * k + 1) H.wI.wI.wI.wI _ (by rw [wI_ne _ _ _ (by decide), wI_at, jx_up_ne _ _ (by decide), wI_at, jx_up_self]) (by rw [wI_ne _ _ _ (by decide), wI_at, jx_up_self]) (by omega)) (fun r41 h41 q41 => ?_)
  obtain ⟨rfl, e41⟩ := q41
  subst e41
  refine ju_eqi (v := h.2.1 292 (40 * k + 1)) (by simp only [wI_ne _ _ _ (show 292 ≠ 253 by decide), wI_ne _ _ _ (show 292 ≠ 254 by decide)]) ?_
  refine ju_iast (pc := 44) (jn := 5) d12052_44 (sK254 H.wI.wI.wI.wI.wI) (by first | assumption | exact jx_ok_dec (by decide)) (by decide) ?_
  refine je_aload0 (pc := 45) d12052_45 rfl ?_
  refine je_aload0 (pc := 46) d12052_46 rfl ?_
  refine ju_getr (pc := 47) (b := 255) d12052_47 jF_12_13 rfl (sK253 H.wI.wI.wI.wI.wI.wI) (sR253_2 H.wI.wI.wI.wI.wI.wI) ?_
  refine ju_callv (pc := 50) (as := [_]) d12052_50 jL_12_452 jM_Mo_movesRow rfl (by decide) (sK253 H.wI.wI.wI.wI.wI.wI) rfl (by exact Nat.le_of_ble_eq_true rfl) (t_Mo_movesRow_b d (q := 40 * k + 2) H.wI.wI.wI.wI.wI.wI (sK255 H.wI.wI.wI.wI.wI.wI) (by decide) (by decide) (by rw [wI_ne _ _ _ (by decide), wI_at, jx_up_ne _ _ (by decide), wI_ne _ _ _ (by decide), wI_at, jx_up_ne _ _ (by decide), wI_at, jx_up_self]) (by rw [wI_ne _ _ _ (by decide), wI_at, jx_up_self]) (by omega)) (fun r50 h50 q50 => ?_)
  obtain ⟨rfl, a1, a2, a3, a4⟩ := q50
  have H3 := a1.St H.wI.wI.wI.wI.wI.wI
  have ab := (a2 53 (by decide)).trans (by rw [wI_ne _ _ _ (by decide), wI_at, jx_up_ne _ _ (by decide), wI_ne _ _ _ (by decide), wI_at, jx_up_ne _ _ (by decide), wI_at, jx_up_self])
  refine je_aload0 (pc := 53) d12052_53 rfl ?_
  refine je_aload0 (pc := 54) d12052_54 rfl ?_
  refine ju_getr (pc := 55) (b := 256) d12052_55 jF_12_16 rfl (sK253 H3) (sR253_3 H3) ?_
  refine ju_callv (pc := 58) (as := [_]) d12052_58 jL_12_452 jM_Mo_movesRow rfl (by decide) (sK253 H3) rfl (by exact Nat.le_of_ble_eq_true rfl) (t_Mo_movesRow_b d (q := 40 * k + 2 + 10) H3 (sK256 H3) (by decide) (by decide) ab a3 (by omega)) (fun r58 h58 q58 => ?_)
  obtain ⟨rfl, b1, b2, b3, b4⟩ := q58
  have H4 := b1.St H3
  have bb := (b2 53 (by decide)).trans ab
  refine je_aload0 (pc := 61) d12052_61 rfl ?_
  refine je_aload0 (pc := 62) d12052_62 rfl ?_
  refine ju_getr (pc := 63) (b := 257) d12052_63 jF_12_19 rfl (sK253 H4) (sR253_4 H4) ?_
  refine ju_callv (pc := 66) (as := [_]) d12052_66 jL_12_452 jM_Mo_movesRow rfl (by decide) (sK253 H4) rfl (by exact Nat.le_of_ble_eq_true rfl) (t_Mo_movesRow_b d (q := 40 * k + 2 + 10 + 10) H4 (sK257 H4) (by decide) (by decide) bb b3 (by omega)) (fun r66 h66 q66 => ?_)
  obtain ⟨rfl, c1, c2, c3, c4⟩ := q66
  have H5 := c1.St H4
  have cb := (c2 53 (by decide)).trans bb
  refine je_aload0 (pc := 69) d12052_69 rfl ?_
  refine je_aload0 (pc := 70) d12052_70 rfl ?_
  refine ju_getr (pc := 71) (b := 262) d12052_71 jF_12_34 rfl (sK253 H5) (sR253_9 H5) ?_
  refine ju_callv (pc := 74) (as := [_]) d12052_74 jL_12_452 jM_Mo_movesRow rfl (by decide) (sK253 H5) rfl (by exact Nat.le_of_ble_eq_true rfl) (t_Mo_movesRow_b d (q := 40 * k + 2 + 10 + 10 + 10) H5 (sK262 H5) (by decide) (by decide) cb c3 (by omega)) (fun r74 h74 q74 => ?_)
  obtain ⟨rfl, e1, e2, e3, e4⟩ := q74
  have H6 := e1.St H5
  have eb := (e2 53 (by decide)).trans cb
  refine je_ret (pc := 77) d12052_77 rfl ?_
  have f1 : fC (fun b => 253 ≤ b ∧ b ≤ 257 ∨ b = 262) h (jx_wI (jx_wI (jx_wI (jx_wI (jx_wI (jx_wI h 253 52 (nI (40 * k))) 253 53 1) 253 52 (nI (40 * k + 1))) 254 4 (h.2.1 292 (40 * k))) 253 52 (nI (40 * k + 2))) 254 5 (h.2.1 292 (40 * k + 1))) := ((((((fC.rf.wI (by omega)).wI (by omega)).wI (by omega)).wI (by omega)).wI (by omega)).wI (by omega))
  have p0 : (jx_wI (jx_wI (jx_wI (jx_wI (jx_wI (jx_wI h 253 52 (nI (40 * k))) 253 53 1) 253 52 (nI (40 * k + 1))) 254 4 (h.2.1 292 (40 * k))) 253 52 (nI (40 * k + 2))) 254 5 (h.2.1 292 (40 * k + 1))).2.1 292 = h.2.1 292 := f1.2 292 (by omega)
  have p1 : h50.2.1 292 = h.2.1 292 := (a1.2 292 (by omega)).trans p0
  have p2 : h58.2.1 292 = h.2.1 292 := (b1.2 292 (by omega)).trans p1
  have p3 : h66.2.1 292 = h.2.1 292 := (c1.2 292 (by omega)).trans p2
  have s4 : ∀ j, h74.2.1 254 j = (jx_wI (jx_wI (jx_wI (jx_wI (jx_wI (jx_wI h 253 52 (nI (40 * k))) 253 53 1) 253 52 (nI (40 * k + 1))) 254 4 (h.2.1 292 (40 * k))) 253 52 (nI (40 * k + 2))) 254 5 (h.2.1 292 (40 * k + 1))).2.1 254 j := fun j => by rw [e1.2 254 (by omega), c1.2 254 (by omega), b1.2 254 (by omega), a1.2 254 (by omega)]
  refine ⟨rfl, f1.tr ((a1.mo (fun b hb => by omega)).tr ((b1.mo (fun b hb => by omega)).tr ((c1.mo (fun b hb => by omega)).tr (e1.mo (fun b hb => by omega))))), fun j h1 h2 => ?_, fun j h1 h2 => ?_, fun L hL => ?_⟩
  · rw [e2 j h1, c2 j h1, b2 j h1, a2 j h1]
    simp only [wI_at, wI_ne _ _ _ (show 253 ≠ 254 by decide), jx_up_ne _ _ h1, jx_up_ne _ _ h2]
  · rw [s4]
    simp only [wI_at, wI_ne _ _ _ (show 254 ≠ 253 by decide), jx_up_ne _ _ h1, jx_up_ne _ _ h2]
  · obtain ⟨l0, l1, l2, l3⟩ := hL
    refine ⟨fun m hm => ⟨?_, ?_, ?_⟩, fun v hv => ?_, ?_, ?_⟩
    · rw [e1.2 255 (by omega), c1.2 255 (by omega), b1.2 255 (by omega), a4 m hm, p0, Nat.add_assoc]; exact (l2 m hm).1
    · rw [e1.2 256 (by omega), c1.2 256 (by omega), b4 m hm, p1, show 40 * k + 2 + 10 + m = 40 * k + (12 + m) by omega]; exact (l2 m hm).2.1
    · rw [e1.2 257 (by omega), c4 m hm, p2, show 40 * k + 2 + 10 + 10 + m = 40 * k + (22 + m) by omega]; exact (l2 m hm).2.2
    · rw [e4 v hv, p3, show 40 * k + 2 + 10 + 10 + 10 + v = 40 * k + (32 + v) by omega]; exact l3 v hv
    · rw [s4]
      simp only [wI_at, wI_ne _ _ _ (show 254 ≠ 253 by decide)]
      rw [jx_up_ne _ _ (by decide), jx_up_self]; exact l0
    · rw [s4]
      simp only [wI_at, wI_ne _ _ _ (show 254 ≠ 253 by decide)]
      rw [jx_up_self]; exact l1
