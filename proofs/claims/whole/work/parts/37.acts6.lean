/-! undo, salt, sugar, slice, bake -/
theorem tI_add {x y : Int32} (h1 : -1073741824 ≤ x.toInt) (h2 : x.toInt ≤ 1073741823) (h3 : -1073741824 ≤ y.toInt) (h4 : y.toInt ≤ 1073741823) : (x + y).toInt = x.toInt + y.toInt := by
  rw [Int32.toInt_add]
  exact Int.bmod_eq_of_le (by omega) (by omega)
theorem tI_sub {x y : Int32} (h1 : -1073741824 ≤ x.toInt) (h2 : x.toInt ≤ 1073741823) (h3 : -1073741823 ≤ y.toInt) (h4 : y.toInt ≤ 1073741823) : (x - y).toInt = x.toInt - y.toInt := by
  rw [Int32.toInt_sub]
  exact Int.bmod_eq_of_le (by omega) (by omega)
theorem up_at {α : Type} (g : Nat → α) (k j : Nat) (v : α) : jx_up g k v j = if j = k then v else g j := rfl
theorem rL.w1 {h : jx_H} {a j : Nat} {v : Int32} {L : ML} (l : rL h.2.1 a L) : rL (jx_wI h (a + 1) j v).2.1 a (jx_up L.1 j v, L.2) := by
  obtain ⟨l1, l2, l3, l4, l5, l6⟩ := l
  refine ⟨fun m hm => ?_, ?_, ?_, ?_, ?_, ?_⟩
  · rw [wI_at, up_at, l1 m hm]; rfl
  · rw [wI_ne _ _ _ (by omega)]; exact l2
  · rw [wI_ne _ _ _ (by omega)]; exact l3
  · rw [wI_ne _ _ _ (by omega)]; exact l4
  · rw [wI_ne _ _ _ (by omega)]; exact l5
  · rw [wI_ne _ _ _ (by omega)]; exact l6
theorem rL.w2 {h : jx_H} {a j : Nat} {v : Int32} {L : ML} (l : rL h.2.1 a L) : rL (jx_wI h (a + 2) j v).2.1 a (L.1, jx_up L.2.1 j v, L.2.2) := by
  obtain ⟨l1, l2, l3, l4, l5, l6⟩ := l
  refine ⟨?_, fun m hm => ?_, ?_, ?_, ?_, ?_⟩
  · rw [wI_ne _ _ _ (by omega)]; exact l1
  · rw [wI_at, up_at, l2 m hm]; rfl
  · rw [wI_ne _ _ _ (by omega)]; exact l3
  · rw [wI_ne _ _ _ (by omega)]; exact l4
  · rw [wI_ne _ _ _ (by omega)]; exact l5
  · rw [wI_ne _ _ _ (by omega)]; exact l6
theorem rL.w3 {h : jx_H} {a j : Nat} {v : Int32} {L : ML} (l : rL h.2.1 a L) : rL (jx_wI h (a + 3) j v).2.1 a (L.1, L.2.1, jx_up L.2.2.1 j v, L.2.2.2) := by
  obtain ⟨l1, l2, l3, l4, l5, l6⟩ := l
  refine ⟨?_, ?_, fun m hm => ?_, ?_, ?_, ?_⟩
  · rw [wI_ne _ _ _ (by omega)]; exact l1
  · rw [wI_ne _ _ _ (by omega)]; exact l2
  · rw [wI_at, up_at, l3 m hm]; rfl
  · rw [wI_ne _ _ _ (by omega)]; exact l4
  · rw [wI_ne _ _ _ (by omega)]; exact l5
  · rw [wI_ne _ _ _ (by omega)]; exact l6
theorem rL.w4 {h : jx_H} {a j : Nat} {v : Int32} {L : ML} (l : rL h.2.1 a L) : rL (jx_wI h (a + 4) j v).2.1 a (L.1, L.2.1, L.2.2.1, jx_up L.2.2.2.1 j v, L.2.2.2.2) := by
  obtain ⟨l1, l2, l3, l4, l5, l6⟩ := l
  refine ⟨?_, ?_, ?_, fun m hm => ?_, ?_, ?_⟩
  · rw [wI_ne _ _ _ (by omega)]; exact l1
  · rw [wI_ne _ _ _ (by omega)]; exact l2
  · rw [wI_ne _ _ _ (by omega)]; exact l3
  · rw [wI_at, up_at, l4 m hm]; rfl
  · rw [wI_ne _ _ _ (by omega)]; exact l5
  · rw [wI_ne _ _ _ (by omega)]; exact l6
theorem rL.wb {h : jx_H} {a : Nat} {v : Int32} {L : ML} (l : rL h.2.1 a L) : rL (jx_wI h a 4 v).2.1 a (L.1, L.2.1, L.2.2.1, L.2.2.2.1, v, L.2.2.2.2.2) := by
  obtain ⟨l1, l2, l3, l4, l5, l6⟩ := l
  refine ⟨?_, ?_, ?_, ?_, ?_, ?_⟩
  · rw [wI_ne _ _ _ (by omega)]; exact l1
  · rw [wI_ne _ _ _ (by omega)]; exact l2
  · rw [wI_ne _ _ _ (by omega)]; exact l3
  · rw [wI_ne _ _ _ (by omega)]; exact l4
  · rw [wI_at, jx_up_self]
  · rw [wI_at, jx_up_ne _ _ (by decide)]; exact l6
theorem rL.wn {h : jx_H} {a : Nat} {v : Int32} {L : ML} (l : rL h.2.1 a L) : rL (jx_wI h a 5 v).2.1 a (L.1, L.2.1, L.2.2.1, L.2.2.2.1, L.2.2.2.2.1, v) := by
  obtain ⟨l1, l2, l3, l4, l5, l6⟩ := l
  refine ⟨?_, ?_, ?_, ?_, ?_, ?_⟩
  · rw [wI_ne _ _ _ (by omega)]; exact l1
  · rw [wI_ne _ _ _ (by omega)]; exact l2
  · rw [wI_ne _ _ _ (by omega)]; exact l3
  · rw [wI_ne _ _ _ (by omega)]; exact l4
  · rw [wI_at, jx_up_ne _ _ (by decide)]; exact l5
  · rw [wI_at, jx_up_self]
theorem mLa.w1 {h : jx_H} {j : Nat} {v : Int32} {L : ML} (l : mLa h.2.1 L) : mLa (jx_wI h 255 j v).2.1 (jx_up L.1 j v, L.2) := by
  obtain ⟨l1, l2, l3, l4⟩ := l
  unfold mLa
  rw [wI_at, wI_ne _ _ _ (show 256 ≠ 255 by decide), wI_ne _ _ _ (show 257 ≠ 255 by decide), wI_ne _ _ _ (show 262 ≠ 255 by decide), wI_ne _ _ _ (show 254 ≠ 255 by decide)]
  exact ⟨fun m hm => ⟨by rw [up_at, (l1 m hm).1]; rfl, (l1 m hm).2⟩, l2, l3, l4⟩
theorem mLa.w2 {h : jx_H} {j : Nat} {v : Int32} {L : ML} (l : mLa h.2.1 L) : mLa (jx_wI h 256 j v).2.1 (L.1, jx_up L.2.1 j v, L.2.2) := by
  obtain ⟨l1, l2, l3, l4⟩ := l
  unfold mLa
  rw [wI_at, wI_ne _ _ _ (show 255 ≠ 256 by decide), wI_ne _ _ _ (show 257 ≠ 256 by decide), wI_ne _ _ _ (show 262 ≠ 256 by decide), wI_ne _ _ _ (show 254 ≠ 256 by decide)]
  exact ⟨fun m hm => ⟨(l1 m hm).1, by rw [up_at, (l1 m hm).2.1]; rfl, (l1 m hm).2.2⟩, l2, l3, l4⟩
theorem mLa.w3 {h : jx_H} {j : Nat} {v : Int32} {L : ML} (l : mLa h.2.1 L) : mLa (jx_wI h 257 j v).2.1 (L.1, L.2.1, jx_up L.2.2.1 j v, L.2.2.2) := by
  obtain ⟨l1, l2, l3, l4⟩ := l
  unfold mLa
  rw [wI_at, wI_ne _ _ _ (show 255 ≠ 257 by decide), wI_ne _ _ _ (show 256 ≠ 257 by decide), wI_ne _ _ _ (show 262 ≠ 257 by decide), wI_ne _ _ _ (show 254 ≠ 257 by decide)]
  exact ⟨fun m hm => ⟨(l1 m hm).1, (l1 m hm).2.1, by rw [up_at, (l1 m hm).2.2]; rfl⟩, l2, l3, l4⟩
theorem mLa.w4 {h : jx_H} {j : Nat} {v : Int32} {L : ML} (l : mLa h.2.1 L) : mLa (jx_wI h 262 j v).2.1 (L.1, L.2.1, L.2.2.1, jx_up L.2.2.2.1 j v, L.2.2.2.2) := by
  obtain ⟨l1, l2, l3, l4⟩ := l
  unfold mLa
  rw [wI_at, wI_ne _ _ _ (show 255 ≠ 262 by decide), wI_ne _ _ _ (show 256 ≠ 262 by decide), wI_ne _ _ _ (show 257 ≠ 262 by decide), wI_ne _ _ _ (show 254 ≠ 262 by decide)]
  exact ⟨l1, fun m hm => by rw [up_at, l2 m hm]; rfl, l3, l4⟩
theorem mLa.wb {h : jx_H} {v : Int32} {L : ML} (l : mLa h.2.1 L) : mLa (jx_wI h 254 4 v).2.1 (L.1, L.2.1, L.2.2.1, L.2.2.2.1, v, L.2.2.2.2.2) := by
  obtain ⟨l1, l2, l3, l4⟩ := l
  unfold mLa
  rw [wI_at, wI_ne _ _ _ (show 255 ≠ 254 by decide), wI_ne _ _ _ (show 256 ≠ 254 by decide), wI_ne _ _ _ (show 257 ≠ 254 by decide), wI_ne _ _ _ (show 262 ≠ 254 by decide)]
  exact ⟨l1, l2, by rw [jx_up_self], by rw [jx_up_ne _ _ (by decide)]; exact l4⟩
theorem mLa.wn {h : jx_H} {v : Int32} {L : ML} (l : mLa h.2.1 L) : mLa (jx_wI h 254 5 v).2.1 (L.1, L.2.1, L.2.2.1, L.2.2.2.1, L.2.2.2.2.1, v) := by
  obtain ⟨l1, l2, l3, l4⟩ := l
  unfold mLa
  rw [wI_at, wI_ne _ _ _ (show 255 ≠ 254 by decide), wI_ne _ _ _ (show 256 ≠ 254 by decide), wI_ne _ _ _ (show 257 ≠ 254 by decide), wI_ne _ _ _ (show 262 ≠ 254 by decide)]
  exact ⟨l1, l2, by rw [jx_up_ne _ _ (by decide)]; exact l3, by rw [jx_up_self]⟩
theorem keeP.la {h h' : jx_H} (k : keeP h h') {L : ML} (m : mLa h.2.1 L) : mLa h'.2.1 L := m.of (k.1.2 _ (by decide)) (k.1.2 _ (by decide)) (k.1.2 _ (by decide)) (k.1.2 _ (by decide)) (by rw [k.1.2 254 (by decide)]) (by rw [k.1.2 254 (by decide)])
theorem bd_up {f : Nat → Int32} {j m : Nat} {v : Int32} {a b : Int} (h : bdI (f m) a b) (hv : bdI v a b) : bdI (jx_up f j v m) a b := by
  rw [up_at]; split
  · exact hv
  · exact h
theorem wfL.w1 {n mi nv j : Nat} {L : ML} {v : Int32} (w : wfL n mi nv L) (hv : bdI v (-20) 20) : wfL n mi nv (jx_up L.1 j v, L.2) := ⟨fun m hm => ⟨bd_up (w.1 m hm).1 hv, (w.1 m hm).2⟩, w.2⟩
theorem wfL.w2 {n mi nv j : Nat} {L : ML} {v : Int32} (w : wfL n mi nv L) (hv : bdI v 0 99) : wfL n mi nv (L.1, jx_up L.2.1 j v, L.2.2) := ⟨fun m hm => ⟨(w.1 m hm).1, bd_up (w.1 m hm).2.1 hv, (w.1 m hm).2.2⟩, w.2⟩
theorem wfL.w3 {n mi nv j : Nat} {L : ML} {v : Int32} (w : wfL n mi nv L) (hv : bdI v 0 9) : wfL n mi nv (L.1, L.2.1, jx_up L.2.2.1 j v, L.2.2.2) := ⟨fun m hm => ⟨(w.1 m hm).1, (w.1 m hm).2.1, bd_up (w.1 m hm).2.2 hv⟩, w.2⟩
theorem InvX.pa {n : Nat} {h : jx_H} {t nr : Nat} {rs : Nat → MR} {X : MW} {Y : Nat → MW} (q : InvX n h t nr rs X Y) : ∃ o, o < 20 ∧ h.2.1 26 9 = nI o ∧ h.2.1 26 10 = nI X.2.2.2.2.1 ∧ X.2.2.2.2.1 ≤ 20 := by
  obtain ⟨-, -, -, -, ⟨-, -, -, -, o, r8, r9, r10, -⟩, -, ⟨-, -, -, -, -, w, -⟩, -⟩ := q
  exact ⟨o, r8, r9, r10, w⟩
set_option maxHeartbeats 2000000 in
theorem t_Db_salt_n (d : Nat) {bc bs : Nat} {h : jx_H} {s : Nat} (H : jx_St h) (hr : h.2.2.2 26 0 = some s) (P : jx_Sp h s) (x : Int32) (G : ¬ (¬ x < 0 ∧ x < h.2.1 s 0)) : jx_Tr (d + 5) bc bs 20 [.ref 1, .int x] h (fun r h' => r = some (.int (-1)) ∧ h' = h) := by
  refine jx_tr jM_Db_salt rfl rfl (lv := [some (.ref 1), some (.int x)]) rfl ?_
  refine je_aload0 (pc := 0) d20_0 rfl ?_
  refine je_iload1 (pc := 1) d20_1 rfl ?_
  refine ju_callv (pc := 2) (as := [_]) d20_2 jL_0_120 jM_Db_isMile rfl (by decide) (sK1 H) rfl (by exact Nat.le_of_ble_eq_true rfl) (t_Db_isMile (d + 3) H hr P _) (fun r2 h2 q2 => ?_)
  obtain ⟨rfl, e2⟩ := q2
  obtain rfl := e2.symm
  refine je_ifeq (pc := 5) 25 d20_5 (by decide) (fun c5 => ?_) (fun c5 => absurd c5 (fun z => G (b2_n z)))
  refine je_iconst (pc := 25) (v := -1) d20_25 rfl ?_
  refine je_iret (pc := 26) d20_26 rfl ?_
  exact ⟨rfl, rfl⟩
set_option maxHeartbeats 2000000 in
theorem t_Db_salt_m (d : Nat) {bc bs : Nat} {h : jx_H} {s : Nat} (H : jx_St h) (hr : h.2.2.2 26 0 = some s) (P : jx_Sp h s) {j mi : Nat} (hm : h.2.1 s 0 = nI mi) (hj : j < mi) (hmi : mi ≤ 10) (G : ¬ h.2.1 43 j < 9) : jx_Tr (d + 5) bc bs 20 [.ref 1, .int (nI j)] h (fun r h' => r = some (.int (-1)) ∧ h' = h) := by
  refine jx_tr jM_Db_salt rfl rfl (lv := [some (.ref 1), some (.int (nI j))]) rfl ?_
  refine je_aload0 (pc := 0) d20_0 rfl ?_
  refine je_iload1 (pc := 1) d20_1 rfl ?_
  refine ju_callv (pc := 2) (as := [_]) d20_2 jL_0_120 jM_Db_isMile rfl (by decide) (sK1 H) rfl (by exact Nat.le_of_ble_eq_true rfl) (t_Db_isMile (d + 3) H hr P _) (fun r2 h2 q2 => ?_)
  obtain ⟨rfl, e2⟩ := q2
  obtain rfl := e2.symm
  refine je_ifeq (pc := 5) 25 d20_5 (by decide) (fun c5 => absurd c5 (fun z => b2_0.mp z (by rw [hm]; exact isM_nI hj (by omega)))) (fun c5 => ?_)
  refine je_aload0 (pc := 8) d20_8 rfl ?_
  refine ju_getr (pc := 9) (b := 26) d20_9 jF_0_41 rfl (sK1 H) (sR1_5 H) ?_
  refine ju_getr (pc := 12) (b := 40) d20_12 jF_0_124 rfl (sK26 H) (sR26_1 H) ?_
  refine ju_getr (pc := 15) (b := 43) d20_15 jF_0_137 rfl (sK40 H) (sR40_2 H) ?_
  refine je_iload1 (pc := 18) d20_18 rfl ?_
  refine ju_iald (pc := 19) (jn := (j)) d20_19 (sK43 H) (vp_in_nI (by omega) (by decide)) (nI_clamp (by omega)) ?_
  refine je_bipush (pc := 20) (v := 9) d20_20 rfl ?_
  refine je_iclt (pc := 22) 27 d20_22 (by decide) (fun c22 => absurd c22 G) (fun c22 => ?_)
  refine je_iconst (pc := 25) (v := -1) d20_25 rfl ?_
  refine je_iret (pc := 26) d20_26 rfl ?_
  exact ⟨rfl, rfl⟩
set_option maxHeartbeats 2000000 in
theorem t_Db_salt (d : Nat) {bc bs : Nat} {h : jx_H} {s : Nat} (H : jx_St h) (hr : h.2.2.2 26 0 = some s) (P : jx_Sp h s) {o k : Nat} (h9 : h.2.1 26 9 = nI o) (h10 : h.2.1 26 10 = nI k) (ho : o < 20) (hk : k ≤ 20) {j mi : Nat} (hm : h.2.1 s 0 = nI mi) (hj : j < mi) (hmi : mi ≤ 10) (G : h.2.1 43 j < 9) : jx_Tr (d + 5) bc bs 20 [.ref 1, .int (nI j)] h (fun r h' => r = some (.int (h.2.1 43 j + 1)) ∧ ∃ h1, remP h h1 ∧ h' = jx_wI h1 43 j (h.2.1 43 j + 1)) := by
  refine jx_tr jM_Db_salt rfl rfl (lv := [some (.ref 1), some (.int (nI j))]) rfl ?_
  refine je_aload0 (pc := 0) d20_0 rfl ?_
  refine je_iload1 (pc := 1) d20_1 rfl ?_
  refine ju_callv (pc := 2) (as := [_]) d20_2 jL_0_120 jM_Db_isMile rfl (by decide) (sK1 H) rfl (by exact Nat.le_of_ble_eq_true rfl) (t_Db_isMile (d + 3) H hr P _) (fun r2 h2 q2 => ?_)
  obtain ⟨rfl, e2⟩ := q2
  obtain rfl := e2.symm
  refine je_ifeq (pc := 5) 25 d20_5 (by decide) (fun c5 => absurd c5 (fun z => b2_0.mp z (by rw [hm]; exact isM_nI hj (by omega)))) (fun c5 => ?_)
  refine je_aload0 (pc := 8) d20_8 rfl ?_
  refine ju_getr (pc := 9) (b := 26) d20_9 jF_0_41 rfl (sK1 H) (sR1_5 H) ?_
  refine ju_getr (pc := 12) (b := 40) d20_12 jF_0_124 rfl (sK26 H) (sR26_1 H) ?_
  refine ju_getr (pc := 15) (b := 43) d20_15 jF_0_137 rfl (sK40 H) (sR40_2 H) ?_
  refine je_iload1 (pc := 18) d20_18 rfl ?_
  refine ju_iald (pc := 19) (jn := (j)) d20_19 (sK43 H) (vp_in_nI (by omega) (by decide)) (nI_clamp (by omega)) ?_
  refine je_bipush (pc := 20) (v := 9) d20_20 rfl ?_
  refine je_iclt (pc := 22) 27 d20_22 (by decide) (fun c22 => ?_) (fun c22 => absurd c22 (fun z => z G))
  refine je_aload0 (pc := 27) d20_27 rfl ?_
  refine ju_getr (pc := 28) (b := 26) d20_28 jF_0_41 rfl (sK1 H) (sR1_5 H) ?_
  refine ju_callv (pc := 31) (as := []) d20_31 jL_0_180 jM_Wo_remember rfl (by decide) (sK26 H) rfl (by exact Nat.le_of_ble_eq_true rfl) (t_Wo_remember (d + 0) H h9 h10 ho hk) (fun r31 h31 q31 => ?_)
  obtain ⟨rfl, w⟩ := q31
  have H2 := w.1.St H
  refine je_aload0 (pc := 34) d20_34 rfl ?_
  refine ju_getr (pc := 35) (b := 26) d20_35 jF_0_41 rfl (sK1 H2) (sR1_5 H2) ?_
  refine ju_getr (pc := 38) (b := 40) d20_38 jF_0_124 rfl (sK26 H2) (sR26_1 H2) ?_
  refine ju_getr (pc := 41) (b := 43) d20_41 jF_0_137 rfl (sK40 H2) (sR40_2 H2) ?_
  refine je_iload1 (pc := 44) d20_44 rfl ?_
  refine je_dup2 (pc := 45) d20_45 rfl rfl ?_
  refine ju_iald (pc := 46) (jn := (j)) d20_46 (sK43 H2) (vp_in_nI (by omega) (by decide)) (nI_clamp (by omega)) ?_
  refine ju_eqi (v := h.2.1 43 j) (by rw [w.1.2 43 (by omega)]) ?_
  refine je_iconst (pc := 47) (v := 1) d20_47 rfl ?_
  refine je_iadd (pc := 48) d20_48 ?_
  refine ju_iast (pc := 49) (jn := (j)) d20_49 (sK43 H2) (vp_in_nI (by omega) (by decide)) (nI_clamp (by omega)) ?_
  refine je_aload0 (pc := 50) d20_50 rfl ?_
  refine ju_getr (pc := 51) (b := 26) d20_51 jF_0_41 rfl (sK1 H2.wI) (sR1_5 H2.wI) ?_
  refine ju_getr (pc := 54) (b := 40) d20_54 jF_0_124 rfl (sK26 H2.wI) (sR26_1 H2.wI) ?_
  refine ju_getr (pc := 57) (b := 43) d20_57 jF_0_137 rfl (sK40 H2.wI) (sR40_2 H2.wI) ?_
  refine je_iload1 (pc := 60) d20_60 rfl ?_
  refine ju_iald (pc := 61) (jn := (j)) d20_61 (sK43 H2.wI) (vp_in_nI (by omega) (by decide)) (nI_clamp (by omega)) ?_
  refine ju_eqi (v := h.2.1 43 j + 1) (by rw [wI_at, jx_up_self]) ?_
  refine je_iret (pc := 62) d20_62 rfl ?_
  exact ⟨rfl, _, w, rfl⟩
set_option maxHeartbeats 2000000 in
theorem t_Mo_salt_n (d : Nat) {bc bs : Nat} {h : jx_H} {mi k : Nat} (H : jx_St h) (hm : h.2.1 254 0 = nI mi) (hmi : mi ≤ 10) (h51 : h.2.1 253 51 = nI k) (hk : k ≤ 20) (x : Int32) (G : ¬ isM x mi) : jx_Tr (d + 5) bc bs 12073 [.ref 253, .int x] h (fun r h' => r = some (.int (-1)) ∧ h' = h) := by
  refine jx_tr jM_Mo_salt rfl rfl (lv := [some (.ref 253), some (.int x)]) rfl ?_
  refine je_aload0 (pc := 0) d12073_0 rfl ?_
  refine je_iload1 (pc := 1) d12073_1 rfl ?_
  refine ju_callv (pc := 2) (as := [_]) d12073_2 jL_12_178 jM_Mo_isMile rfl (by decide) (sK253 H) rfl (by exact Nat.le_of_ble_eq_true rfl) (t_Mo_isMile (d + 2) H _ hm (by omega)) (fun r2 h2 q2 => ?_)
  obtain ⟨rfl, e2⟩ := q2
  obtain rfl := e2.symm
  refine je_ifeq (pc := 5) 19 d12073_5 (by decide) (fun c5 => ?_) (fun c5 => absurd c5 (fun z => G (b2_n z)))
  refine je_iconst (pc := 19) (v := -1) d12073_19 rfl ?_
  refine je_iret (pc := 20) d12073_20 rfl ?_
  exact ⟨rfl, rfl⟩
set_option maxHeartbeats 2000000 in
theorem t_Mo_salt_m (d : Nat) {bc bs : Nat} {h : jx_H} {mi k : Nat} (H : jx_St h) (hm : h.2.1 254 0 = nI mi) (hmi : mi ≤ 10) (h51 : h.2.1 253 51 = nI k) (hk : k ≤ 20) {j : Nat} (hj : j < mi) (G : h.2.1 257 j = 9) : jx_Tr (d + 5) bc bs 12073 [.ref 253, .int (nI j)] h (fun r h' => r = some (.int (-1)) ∧ h' = h) := by
  refine jx_tr jM_Mo_salt rfl rfl (lv := [some (.ref 253), some (.int (nI j))]) rfl ?_
  refine je_aload0 (pc := 0) d12073_0 rfl ?_
  refine je_iload1 (pc := 1) d12073_1 rfl ?_
  refine ju_callv (pc := 2) (as := [_]) d12073_2 jL_12_178 jM_Mo_isMile rfl (by decide) (sK253 H) rfl (by exact Nat.le_of_ble_eq_true rfl) (t_Mo_isMile (d + 2) H _ hm (by omega)) (fun r2 h2 q2 => ?_)
  obtain ⟨rfl, e2⟩ := q2
  obtain rfl := e2.symm
  refine je_ifeq (pc := 5) 19 d12073_5 (by decide) (fun c5 => absurd c5 (fun z => b2_0.mp z (isM_nI hj (by omega)))) (fun c5 => ?_)
  refine je_aload0 (pc := 8) d12073_8 rfl ?_
  refine ju_getr (pc := 9) (b := 257) d12073_9 jF_12_19 rfl (sK253 H) (sR253_4 H) ?_
  refine je_iload1 (pc := 12) d12073_12 rfl ?_
  refine ju_iald (pc := 13) (jn := (j)) d12073_13 (sK257 H) (vp_in_nI (by omega) (by decide)) (nI_clamp (by omega)) ?_
  refine je_bipush (pc := 14) (v := 9) d12073_14 rfl ?_
  refine je_icne (pc := 16) 21 d12073_16 (by decide) (fun c16 => absurd c16 (fun z => z G)) (fun c16 => ?_)
  refine je_iconst (pc := 19) (v := -1) d12073_19 rfl ?_
  refine je_iret (pc := 20) d12073_20 rfl ?_
  exact ⟨rfl, rfl⟩
set_option maxHeartbeats 2000000 in
theorem t_Mo_salt (d : Nat) {bc bs : Nat} {h : jx_H} {mi k : Nat} (H : jx_St h) (hm : h.2.1 254 0 = nI mi) (hmi : mi ≤ 10) (h51 : h.2.1 253 51 = nI k) (hk : k ≤ 20) {j : Nat} (hj : j < mi) (G : ¬ h.2.1 257 j = 9) : jx_Tr (d + 5) bc bs 12073 [.ref 253, .int (nI j)] h (fun r h' => r = some (.int (h.2.1 257 j + 1)) ∧ ∃ h1, keeP h h1 ∧ h' = jx_wI h1 257 j (h.2.1 257 j + 1)) := by
  refine jx_tr jM_Mo_salt rfl rfl (lv := [some (.ref 253), some (.int (nI j))]) rfl ?_
  refine je_aload0 (pc := 0) d12073_0 rfl ?_
  refine je_iload1 (pc := 1) d12073_1 rfl ?_
  refine ju_callv (pc := 2) (as := [_]) d12073_2 jL_12_178 jM_Mo_isMile rfl (by decide) (sK253 H) rfl (by exact Nat.le_of_ble_eq_true rfl) (t_Mo_isMile (d + 2) H _ hm (by omega)) (fun r2 h2 q2 => ?_)
  obtain ⟨rfl, e2⟩ := q2
  obtain rfl := e2.symm
  refine je_ifeq (pc := 5) 19 d12073_5 (by decide) (fun c5 => absurd c5 (fun z => b2_0.mp z (isM_nI hj (by omega)))) (fun c5 => ?_)
  refine je_aload0 (pc := 8) d12073_8 rfl ?_
  refine ju_getr (pc := 9) (b := 257) d12073_9 jF_12_19 rfl (sK253 H) (sR253_4 H) ?_
  refine je_iload1 (pc := 12) d12073_12 rfl ?_
  refine ju_iald (pc := 13) (jn := (j)) d12073_13 (sK257 H) (vp_in_nI (by omega) (by decide)) (nI_clamp (by omega)) ?_
  refine je_bipush (pc := 14) (v := 9) d12073_14 rfl ?_
  refine je_icne (pc := 16) 21 d12073_16 (by decide) (fun c16 => ?_) (fun c16 => absurd c16 (fun z => G z))
  refine je_aload0 (pc := 21) d12073_21 rfl ?_
  refine ju_callv (pc := 22) (as := []) d12073_22 jL_12_460 jM_Mo_keepsAct rfl (by decide) (sK253 H) rfl (by exact Nat.le_of_ble_eq_true rfl) (t_Mo_keepsAct (d + 0) H h51 hk) (fun r22 h22 q22 => ?_)
  obtain ⟨rfl, w⟩ := q22
  have H2 := w.1.St H
  refine je_aload0 (pc := 25) d12073_25 rfl ?_
  refine ju_getr (pc := 26) (b := 257) d12073_26 jF_12_19 rfl (sK253 H2) (sR253_4 H2) ?_
  refine je_iload1 (pc := 29) d12073_29 rfl ?_
  refine je_dup2 (pc := 30) d12073_30 rfl rfl ?_
  refine ju_iald (pc := 31) (jn := (j)) d12073_31 (sK257 H2) (vp_in_nI (by omega) (by decide)) (nI_clamp (by omega)) ?_
  refine ju_eqi (v := h.2.1 257 j) (by rw [w.1.2 257 (by omega)]) ?_
  refine je_iconst (pc := 32) (v := 1) d12073_32 rfl ?_
  refine je_iadd (pc := 33) d12073_33 ?_
  refine ju_iast (pc := 34) (jn := (j)) d12073_34 (sK257 H2) (vp_in_nI (by omega) (by decide)) (nI_clamp (by omega)) ?_
  refine je_aload0 (pc := 35) d12073_35 rfl ?_
  refine ju_getr (pc := 36) (b := 257) d12073_36 jF_12_19 rfl (sK253 H2.wI) (sR253_4 H2.wI) ?_
  refine je_iload1 (pc := 39) d12073_39 rfl ?_
  refine ju_iald (pc := 40) (jn := (j)) d12073_40 (sK257 H2.wI) (vp_in_nI (by omega) (by decide)) (nI_clamp (by omega)) ?_
  refine ju_eqi (v := h.2.1 257 j + 1) (by rw [wI_at, jx_up_self]) ?_
  refine je_iret (pc := 41) d12073_41 rfl ?_
  exact ⟨rfl, _, w, rfl⟩
theorem op_salt (x : Int32) : jo Inv 20 12073 [.int x] := jo_act (fun n h t nr rs X Y hn q => by
  obtain ⟨s, r1, r2, r3, ⟨⟨a1, -⟩, -⟩, l1, l2, l3, l4, l5, l6⟩ := q.cl
  obtain ⟨b1, -, -⟩ := q.mi
  obtain ⟨o, p1, p2, p3, p4⟩ := q.pa
  obtain ⟨-, -, -, -, ⟨-, rl, -⟩, -, ⟨-, wl, -⟩, -⟩ := id q
  by_cases G : isM x X.1.1.1
  · obtain ⟨j, hj, rfl⟩ := isM_of G (by omega)
    have e1 : h.2.1 43 j = X.2.1.2.2.1 j := l3 j (by omega)
    obtain ⟨z1, z2⟩ := (wl.1 j (by omega)).2.2
    have e2 : h.2.1 43 j < 9 ↔ ¬ X.2.1.2.2.1 j = 9 := by
      rw [e1, fa_lt, fa_eq, show (9 : Int32).toInt = 9 from rfl]
      omega
    by_cases G2 : h.2.1 43 j < 9
    · refine Or.inr ⟨X.2.1.2.2.1 j + 1, (X.2.1.1, X.2.1.2.1, jx_up X.2.1.2.2.1 j (X.2.1.2.2.1 j + 1), X.2.1.2.2.2), (wl.up (Nat.le_succ n)).w3 ?_, (t_Db_salt 194 q.1 r1 r3 p2 p3 p1 p4 a1 hj b1 G2).mono (fun r h2 e => ?_), fun h1 S1 g1 m1 => ?_⟩
      · have G3 := G2
        rw [e1, fa_lt, show (9 : Int32).toInt = 9 from rfl] at G3
        have : (X.2.1.2.2.1 j + 1).toInt = (X.2.1.2.2.1 j).toInt + 1 := tI_add (by omega) (by omega) (by decide) (by decide)
        exact ⟨by omega, by omega⟩
      · obtain ⟨rfl, h1, w1, rfl⟩ := e
        rw [e1]
        exact ⟨rfl, h1, w1, fC.rf.wI (by omega), (w1.cp rl).w3⟩
      · have k1 : h1.2.1 257 j = X.2.1.2.2.1 j := (m1.la.1 j (by omega)).2.2
        refine (t_Mo_salt 194 S1 m1.st.1.1 b1 m1.pa.1 p4 hj (by rw [k1]; exact e2.mp G2)).mono (fun r h3 e => ?_)
        obtain ⟨rfl, h2, w1, rfl⟩ := e
        rw [k1]
        exact ⟨rfl, h2, w1, fC.rf.wI (by omega), fun j _ _ => by rw [wI_ne _ _ _ (by decide)], (w1.la m1.la).w3⟩
    · refine Or.inl ⟨-1, t_Db_salt_m 194 q.1 r1 r3 a1 hj b1 G2, fun h1 S1 g1 m1 => t_Mo_salt_m 194 S1 m1.st.1.1 b1 m1.pa.1 p4 hj ?_⟩
      rw [(m1.la.1 j (by omega)).2.2]
      exact Decidable.not_not.mp (fun z => G2 (e2.mpr z))
  · exact Or.inl ⟨-1, t_Db_salt_n 194 q.1 r1 r3 x (by rw [a1]; exact G), fun h1 S1 g1 m1 => t_Mo_salt_n 194 S1 m1.st.1.1 b1 m1.pa.1 p4 x G⟩)
set_option maxHeartbeats 2000000 in
theorem t_Db_sugar_n (d : Nat) {bc bs : Nat} {h : jx_H} {s : Nat} (H : jx_St h) (hr : h.2.2.2 26 0 = some s) (P : jx_Sp h s) (x : Int32) (G : ¬ ((¬ x < 0 ∧ x < h.2.1 s 0) ∧ ¬ bkd (h.2.1 40 4) x)) : jx_Tr (d + 5) bc bs 21 [.ref 1, .int x] h (fun r h' => r = some (.int (-1)) ∧ h' = h) := by
  refine jx_tr jM_Db_sugar rfl rfl (lv := [some (.ref 1), some (.int x)]) rfl ?_
  refine je_aload0 (pc := 0) d21_0 rfl ?_
  refine je_iload1 (pc := 1) d21_1 rfl ?_
  refine ju_callv (pc := 2) (as := [_]) d21_2 jL_0_191 jM_Db_isSoft rfl (by decide) (sK1 H) rfl (by exact Nat.le_of_ble_eq_true rfl) (t_Db_isSoft (d + 2) H hr P _) (fun r2 h2 q2 => ?_)
  obtain ⟨rfl, e2⟩ := q2
  obtain rfl := e2.symm
  refine je_ifne (pc := 5) 10 d21_5 (by decide) (fun c5 => absurd c5 (fun z => G (b2_n z))) (fun c5 => ?_)
  refine je_iconst (pc := 8) (v := -1) d21_8 rfl ?_
  refine je_iret (pc := 9) d21_9 rfl ?_
  exact ⟨rfl, rfl⟩
set_option maxHeartbeats 2000000 in
theorem t_Db_sugar (d : Nat) {bc bs : Nat} {h : jx_H} {s : Nat} (H : jx_St h) (hr : h.2.2.2 26 0 = some s) (P : jx_Sp h s) {o k : Nat} (h9 : h.2.1 26 9 = nI o) (h10 : h.2.1 26 10 = nI k) (ho : o < 20) (hk : k ≤ 20) {j mi : Nat} (hm : h.2.1 s 0 = nI mi) (hj : j < mi) (hmi : mi ≤ 10) (G : ¬ bkd (h.2.1 40 4) (nI j)) : jx_Tr (d + 5) bc bs 21 [.ref 1, .int (nI j)] h (fun r h' => r = some (.int ((if 99 < h.2.1 42 j + 10 then 99 else h.2.1 42 j + 10))) ∧ ∃ h1, remP h h1 ∧ h' = jx_wI (jx_wI h1 43 j (if h.2.1 43 j - 1 < 0 then 0 else h.2.1 43 j - 1)) 42 j (if 99 < h.2.1 42 j + 10 then 99 else h.2.1 42 j + 10)) := by
  refine jx_tr jM_Db_sugar rfl rfl (lv := [some (.ref 1), some (.int (nI j))]) rfl ?_
  refine je_aload0 (pc := 0) d21_0 rfl ?_
  refine je_iload1 (pc := 1) d21_1 rfl ?_
  refine ju_callv (pc := 2) (as := [_]) d21_2 jL_0_191 jM_Db_isSoft rfl (by decide) (sK1 H) rfl (by exact Nat.le_of_ble_eq_true rfl) (t_Db_isSoft (d + 2) H hr P _) (fun r2 h2 q2 => ?_)
  obtain ⟨rfl, e2⟩ := q2
  obtain rfl := e2.symm
  refine je_ifne (pc := 5) 10 d21_5 (by decide) (fun c5 => ?_) (fun c5 => absurd c5 (fun z => b2_0.mp z ⟨by rw [hm]; exact isM_nI hj (by omega), G⟩))
  refine je_aload0 (pc := 10) d21_10 rfl ?_
  refine ju_getr (pc := 11) (b := 26) d21_11 jF_0_41 rfl (sK1 H) (sR1_5 H) ?_
  refine ju_callv (pc := 14) (as := []) d21_14 jL_0_180 jM_Wo_remember rfl (by decide) (sK26 H) rfl (by exact Nat.le_of_ble_eq_true rfl) (t_Wo_remember (d + 0) H h9 h10 ho hk) (fun r14 h14 q14 => ?_)
  obtain ⟨rfl, w⟩ := q14
  have H2 := w.1.St H
  refine je_aload0 (pc := 17) d21_17 rfl ?_
  refine ju_getr (pc := 18) (b := 26) d21_18 jF_0_41 rfl (sK1 H2) (sR1_5 H2) ?_
  refine ju_getr (pc := 21) (b := 40) d21_21 jF_0_124 rfl (sK26 H2) (sR26_1 H2) ?_
  refine ju_getr (pc := 24) (b := 43) d21_24 jF_0_137 rfl (sK40 H2) (sR40_2 H2) ?_
  refine je_iload1 (pc := 27) d21_27 rfl ?_
  refine je_aload0 (pc := 28) d21_28 rfl ?_
  refine ju_getr (pc := 29) (b := 26) d21_29 jF_0_41 rfl (sK1 H2) (sR1_5 H2) ?_
  refine ju_getr (pc := 32) (b := 40) d21_32 jF_0_124 rfl (sK26 H2) (sR26_1 H2) ?_
  refine ju_getr (pc := 35) (b := 43) d21_35 jF_0_137 rfl (sK40 H2) (sR40_2 H2) ?_
  refine je_iload1 (pc := 38) d21_38 rfl ?_
  refine ju_iald (pc := 39) (jn := (j)) d21_39 (sK43 H2) (vp_in_nI (by omega) (by decide)) (nI_clamp (by omega)) ?_
  refine ju_eqi (v := h.2.1 43 j) (by rw [w.1.2 43 (by omega)]) ?_
  refine je_iconst (pc := 40) (v := 1) d21_40 rfl ?_
  refine je_isub (pc := 41) d21_41 ?_
  refine je_iconst (pc := 42) (v := 0) d21_42 rfl ?_
  refine je_mmax (pc := 43) d21_43 jLm_0_209 (by exact Nat.le_of_ble_eq_true rfl) ?_
  refine ju_iast (pc := 46) (jn := (j)) d21_46 (sK43 H2) (vp_in_nI (by omega) (by decide)) (nI_clamp (by omega)) ?_
  refine je_aload0 (pc := 47) d21_47 rfl ?_
  refine ju_getr (pc := 48) (b := 26) d21_48 jF_0_41 rfl (sK1 H2.wI) (sR1_5 H2.wI) ?_
  refine ju_getr (pc := 51) (b := 40) d21_51 jF_0_124 rfl (sK26 H2.wI) (sR26_1 H2.wI) ?_
  refine ju_getr (pc := 54) (b := 42) d21_54 jF_0_134 rfl (sK40 H2.wI) (sR40_1 H2.wI) ?_
  refine je_iload1 (pc := 57) d21_57 rfl ?_
  refine je_aload0 (pc := 58) d21_58 rfl ?_
  refine ju_getr (pc := 59) (b := 26) d21_59 jF_0_41 rfl (sK1 H2.wI) (sR1_5 H2.wI) ?_
  refine ju_getr (pc := 62) (b := 40) d21_62 jF_0_124 rfl (sK26 H2.wI) (sR26_1 H2.wI) ?_
  refine ju_getr (pc := 65) (b := 42) d21_65 jF_0_134 rfl (sK40 H2.wI) (sR40_1 H2.wI) ?_
  refine je_iload1 (pc := 68) d21_68 rfl ?_
  refine ju_iald (pc := 69) (jn := (j)) d21_69 (sK42 H2.wI) (vp_in_nI (by omega) (by decide)) (nI_clamp (by omega)) ?_
  refine ju_eqi (v := h.2.1 42 j) (by rw [wI_ne _ _ _ (by decide), w.1.2 42 (by omega)]) ?_
  refine je_bipush (pc := 70) (v := 10) d21_70 rfl ?_
  refine je_iadd (pc := 72) d21_72 ?_
  refine je_bipush (pc := 73) (v := 99) d21_73 rfl ?_
  refine je_mmin (pc := 75) d21_75 jLm_0_214 (by exact Nat.le_of_ble_eq_true rfl) ?_
  refine ju_iast (pc := 78) (jn := (j)) d21_78 (sK42 H2.wI) (vp_in_nI (by omega) (by decide)) (nI_clamp (by omega)) ?_
  refine je_aload0 (pc := 79) d21_79 rfl ?_
  refine ju_getr (pc := 80) (b := 26) d21_80 jF_0_41 rfl (sK1 H2.wI.wI) (sR1_5 H2.wI.wI) ?_
  refine ju_getr (pc := 83) (b := 40) d21_83 jF_0_124 rfl (sK26 H2.wI.wI) (sR26_1 H2.wI.wI) ?_
  refine ju_getr (pc := 86) (b := 42) d21_86 jF_0_134 rfl (sK40 H2.wI.wI) (sR40_1 H2.wI.wI) ?_
  refine je_iload1 (pc := 89) d21_89 rfl ?_
  refine ju_iald (pc := 90) (jn := (j)) d21_90 (sK42 H2.wI.wI) (vp_in_nI (by omega) (by decide)) (nI_clamp (by omega)) ?_
  refine ju_eqi (v := (if 99 < h.2.1 42 j + 10 then 99 else h.2.1 42 j + 10)) (by rw [wI_at, jx_up_self]) ?_
  refine je_iret (pc := 91) d21_91 rfl ?_
  exact ⟨rfl, _, w, rfl⟩
set_option maxHeartbeats 2000000 in
theorem t_Mo_sugar_n (d : Nat) {bc bs : Nat} {h : jx_H} {mi k : Nat} (H : jx_St h) (hm : h.2.1 254 0 = nI mi) (hmi : mi ≤ 10) (h51 : h.2.1 253 51 = nI k) (hk : k ≤ 20) (x : Int32) (G : ¬ (isM x mi ∧ ¬ bkd (h.2.1 254 4) x)) : jx_Tr (d + 5) bc bs 12074 [.ref 253, .int x] h (fun r h' => r = some (.int (-1)) ∧ h' = h) := by
  refine jx_tr jM_Mo_sugar rfl rfl (lv := [some (.ref 253), some (.int x)]) rfl ?_
  refine je_aload0 (pc := 0) d12074_0 rfl ?_
  refine je_iload1 (pc := 1) d12074_1 rfl ?_
  refine ju_callv (pc := 2) (as := [_]) d12074_2 jL_12_463 jM_Mo_isSoft rfl (by decide) (sK253 H) rfl (by exact Nat.le_of_ble_eq_true rfl) (t_Mo_isSoft (d + 1) H _ hm (by omega)) (fun r2 h2 q2 => ?_)
  obtain ⟨rfl, e2⟩ := q2
  obtain rfl := e2.symm
  refine je_ifne (pc := 5) 10 d12074_5 (by decide) (fun c5 => absurd c5 (fun z => G (b2_n z))) (fun c5 => ?_)
  refine je_iconst (pc := 8) (v := -1) d12074_8 rfl ?_
  refine je_iret (pc := 9) d12074_9 rfl ?_
  exact ⟨rfl, rfl⟩
set_option maxHeartbeats 2000000 in
theorem t_Mo_sugar (d : Nat) {bc bs : Nat} {h : jx_H} {mi k : Nat} (H : jx_St h) (hm : h.2.1 254 0 = nI mi) (hmi : mi ≤ 10) (h51 : h.2.1 253 51 = nI k) (hk : k ≤ 20) {j : Nat} (hj : j < mi) (G : ¬ bkd (h.2.1 254 4) (nI j)) : jx_Tr (d + 5) bc bs 12074 [.ref 253, .int (nI j)] h (fun r h' => r = some (.int ((if 99 < h.2.1 256 j + 10 then 99 else h.2.1 256 j + 10))) ∧ ∃ h1, keeP h h1 ∧ h' = jx_wI (jx_wI h1 257 j (if 0 < h.2.1 257 j then h.2.1 257 j - 1 else 0)) 256 j (if 99 < h.2.1 256 j + 10 then 99 else h.2.1 256 j + 10)) := by
  refine jx_tr jM_Mo_sugar rfl rfl (lv := [some (.ref 253), some (.int (nI j))]) rfl ?_
  refine je_aload0 (pc := 0) d12074_0 rfl ?_
  refine je_iload1 (pc := 1) d12074_1 rfl ?_
  refine ju_callv (pc := 2) (as := [_]) d12074_2 jL_12_463 jM_Mo_isSoft rfl (by decide) (sK253 H) rfl (by exact Nat.le_of_ble_eq_true rfl) (t_Mo_isSoft (d + 1) H _ hm (by omega)) (fun r2 h2 q2 => ?_)
  obtain ⟨rfl, e2⟩ := q2
  obtain rfl := e2.symm
  refine je_ifne (pc := 5) 10 d12074_5 (by decide) (fun c5 => ?_) (fun c5 => absurd c5 (fun z => b2_0.mp z ⟨isM_nI hj (by omega), G⟩))
  refine je_aload0 (pc := 10) d12074_10 rfl ?_
  refine ju_callv (pc := 11) (as := []) d12074_11 jL_12_460 jM_Mo_keepsAct rfl (by decide) (sK253 H) rfl (by exact Nat.le_of_ble_eq_true rfl) (t_Mo_keepsAct (d + 0) H h51 hk) (fun r11 h11 q11 => ?_)
  obtain ⟨rfl, w⟩ := q11
  have H2 := w.1.St H
  refine je_aload0 (pc := 14) d12074_14 rfl ?_
  refine ju_getr (pc := 15) (b := 257) d12074_15 jF_12_19 rfl (sK253 H2) (sR253_4 H2) ?_
  refine je_iload1 (pc := 18) d12074_18 rfl ?_
  refine je_aload0 (pc := 19) d12074_19 rfl ?_
  refine ju_getr (pc := 20) (b := 257) d12074_20 jF_12_19 rfl (sK253 H2) (sR253_4 H2) ?_
  refine je_iload1 (pc := 23) d12074_23 rfl ?_
  refine ju_iald (pc := 24) (jn := (j)) d12074_24 (sK257 H2) (vp_in_nI (by omega) (by decide)) (nI_clamp (by omega)) ?_
  refine ju_eqi (v := h.2.1 257 j) (by rw [w.1.2 257 (by omega)]) ?_
  refine ju_ifle (pc := 25) 39 d12074_25 (by decide) (fun c25 => ?_) (fun c25 => ?_)
  · refine je_iconst (pc := 39) (v := 0) d12074_39 rfl ?_
    refine ju_iast (pc := 40) (jn := (j)) d12074_40 (sK257 H2) (vp_in_nI (by omega) (by decide)) (nI_clamp (by omega)) ?_
    refine je_aload0 (pc := 41) d12074_41 rfl ?_
    refine ju_getr (pc := 42) (b := 256) d12074_42 jF_12_16 rfl (sK253 H2.wI) (sR253_3 H2.wI) ?_
    refine je_iload1 (pc := 45) d12074_45 rfl ?_
    refine je_aload0 (pc := 46) d12074_46 rfl ?_
    refine ju_getr (pc := 47) (b := 256) d12074_47 jF_12_16 rfl (sK253 H2.wI) (sR253_3 H2.wI) ?_
    refine je_iload1 (pc := 50) d12074_50 rfl ?_
    refine ju_iald (pc := 51) (jn := (j)) d12074_51 (sK256 H2.wI) (vp_in_nI (by omega) (by decide)) (nI_clamp (by omega)) ?_
    refine ju_eqi (v := h.2.1 256 j) (by rw [wI_ne _ _ _ (by decide), w.1.2 256 (by omega)]) ?_
    refine je_bipush (pc := 52) (v := 10) d12074_52 rfl ?_
    refine je_iadd (pc := 54) d12074_54 ?_
    refine je_bipush (pc := 55) (v := 99) d12074_55 rfl ?_
    refine ju_icle (pc := 57) 65 d12074_57 (by decide) (fun c57 => ?_) (fun c57 => ?_)
    · refine je_aload0 (pc := 65) d12074_65 rfl ?_
      refine ju_getr (pc := 66) (b := 256) d12074_66 jF_12_16 rfl (sK253 H2.wI) (sR253_3 H2.wI) ?_
      refine je_iload1 (pc := 69) d12074_69 rfl ?_
      refine ju_iald (pc := 70) (jn := (j)) d12074_70 (sK256 H2.wI) (vp_in_nI (by omega) (by decide)) (nI_clamp (by omega)) ?_
      refine ju_eqi (v := h.2.1 256 j) (by rw [wI_ne _ _ _ (by decide), w.1.2 256 (by omega)]) ?_
      refine je_bipush (pc := 71) (v := 10) d12074_71 rfl ?_
      refine je_iadd (pc := 73) d12074_73 ?_
      refine ju_iast (pc := 74) (jn := (j)) d12074_74 (sK256 H2.wI) (vp_in_nI (by omega) (by decide)) (nI_clamp (by omega)) ?_
      refine je_aload0 (pc := 75) d12074_75 rfl ?_
      refine ju_getr (pc := 76) (b := 256) d12074_76 jF_12_16 rfl (sK253 H2.wI.wI) (sR253_3 H2.wI.wI) ?_
      refine je_iload1 (pc := 79) d12074_79 rfl ?_
      refine ju_iald (pc := 80) (jn := (j)) d12074_80 (sK256 H2.wI.wI) (vp_in_nI (by omega) (by decide)) (nI_clamp (by omega)) ?_
      refine je_iret (pc := 81) d12074_81 rfl ?_
      refine ⟨?_, _, w, ?_⟩
      · rw [wI_at, jx_up_self, if_neg c57]
      · rw [if_neg c25, if_neg c57]
    · refine je_bipush (pc := 60) (v := 99) d12074_60 rfl ?_
      refine je_goto (pc := 62) 74 d12074_62 (by decide) ?_
      refine ju_iast (pc := 74) (jn := (j)) d12074_74 (sK256 H2.wI) (vp_in_nI (by omega) (by decide)) (nI_clamp (by omega)) ?_
      refine je_aload0 (pc := 75) d12074_75 rfl ?_
      refine ju_getr (pc := 76) (b := 256) d12074_76 jF_12_16 rfl (sK253 H2.wI.wI) (sR253_3 H2.wI.wI) ?_
      refine je_iload1 (pc := 79) d12074_79 rfl ?_
      refine ju_iald (pc := 80) (jn := (j)) d12074_80 (sK256 H2.wI.wI) (vp_in_nI (by omega) (by decide)) (nI_clamp (by omega)) ?_
      refine je_iret (pc := 81) d12074_81 rfl ?_
      refine ⟨?_, _, w, ?_⟩
      · rw [wI_at, jx_up_self, if_pos c57]
      · rw [if_neg c25, if_pos c57]
  · refine je_aload0 (pc := 28) d12074_28 rfl ?_
    refine ju_getr (pc := 29) (b := 257) d12074_29 jF_12_19 rfl (sK253 H2) (sR253_4 H2) ?_
    refine je_iload1 (pc := 32) d12074_32 rfl ?_
    refine ju_iald (pc := 33) (jn := (j)) d12074_33 (sK257 H2) (vp_in_nI (by omega) (by decide)) (nI_clamp (by omega)) ?_
    refine ju_eqi (v := h.2.1 257 j) (by rw [w.1.2 257 (by omega)]) ?_
    refine je_iconst (pc := 34) (v := 1) d12074_34 rfl ?_
    refine je_isub (pc := 35) d12074_35 ?_
    refine je_goto (pc := 36) 40 d12074_36 (by decide) ?_
    refine ju_iast (pc := 40) (jn := (j)) d12074_40 (sK257 H2) (vp_in_nI (by omega) (by decide)) (nI_clamp (by omega)) ?_
    refine je_aload0 (pc := 41) d12074_41 rfl ?_
    refine ju_getr (pc := 42) (b := 256) d12074_42 jF_12_16 rfl (sK253 H2.wI) (sR253_3 H2.wI) ?_
    refine je_iload1 (pc := 45) d12074_45 rfl ?_
    refine je_aload0 (pc := 46) d12074_46 rfl ?_
    refine ju_getr (pc := 47) (b := 256) d12074_47 jF_12_16 rfl (sK253 H2.wI) (sR253_3 H2.wI) ?_
    refine je_iload1 (pc := 50) d12074_50 rfl ?_
    refine ju_iald (pc := 51) (jn := (j)) d12074_51 (sK256 H2.wI) (vp_in_nI (by omega) (by decide)) (nI_clamp (by omega)) ?_
    refine ju_eqi (v := h.2.1 256 j) (by rw [wI_ne _ _ _ (by decide), w.1.2 256 (by omega)]) ?_
    refine je_bipush (pc := 52) (v := 10) d12074_52 rfl ?_
    refine je_iadd (pc := 54) d12074_54 ?_
    refine je_bipush (pc := 55) (v := 99) d12074_55 rfl ?_
    refine ju_icle (pc := 57) 65 d12074_57 (by decide) (fun c57 => ?_) (fun c57 => ?_)
    · refine je_aload0 (pc := 65) d12074_65 rfl ?_
      refine ju_getr (pc := 66) (b := 256) d12074_66 jF_12_16 rfl (sK253 H2.wI) (sR253_3 H2.wI) ?_
      refine je_iload1 (pc := 69) d12074_69 rfl ?_
      refine ju_iald (pc := 70) (jn := (j)) d12074_70 (sK256 H2.wI) (vp_in_nI (by omega) (by decide)) (nI_clamp (by omega)) ?_
      refine ju_eqi (v := h.2.1 256 j) (by rw [wI_ne _ _ _ (by decide), w.1.2 256 (by omega)]) ?_
      refine je_bipush (pc := 71) (v := 10) d12074_71 rfl ?_
      refine je_iadd (pc := 73) d12074_73 ?_
      refine ju_iast (pc := 74) (jn := (j)) d12074_74 (sK256 H2.wI) (vp_in_nI (by omega) (by decide)) (nI_clamp (by omega)) ?_
      refine je_aload0 (pc := 75) d12074_75 rfl ?_
      refine ju_getr (pc := 76) (b := 256) d12074_76 jF_12_16 rfl (sK253 H2.wI.wI) (sR253_3 H2.wI.wI) ?_
      refine je_iload1 (pc := 79) d12074_79 rfl ?_
      refine ju_iald (pc := 80) (jn := (j)) d12074_80 (sK256 H2.wI.wI) (vp_in_nI (by omega) (by decide)) (nI_clamp (by omega)) ?_
      refine je_iret (pc := 81) d12074_81 rfl ?_
      refine ⟨?_, _, w, ?_⟩
      · rw [wI_at, jx_up_self, if_neg c57]
      · rw [if_pos c25, if_neg c57]
    · refine je_bipush (pc := 60) (v := 99) d12074_60 rfl ?_
      refine je_goto (pc := 62) 74 d12074_62 (by decide) ?_
      refine ju_iast (pc := 74) (jn := (j)) d12074_74 (sK256 H2.wI) (vp_in_nI (by omega) (by decide)) (nI_clamp (by omega)) ?_
      refine je_aload0 (pc := 75) d12074_75 rfl ?_
      refine ju_getr (pc := 76) (b := 256) d12074_76 jF_12_16 rfl (sK253 H2.wI.wI) (sR253_3 H2.wI.wI) ?_
      refine je_iload1 (pc := 79) d12074_79 rfl ?_
      refine ju_iald (pc := 80) (jn := (j)) d12074_80 (sK256 H2.wI.wI) (vp_in_nI (by omega) (by decide)) (nI_clamp (by omega)) ?_
      refine je_iret (pc := 81) d12074_81 rfl ?_
      refine ⟨?_, _, w, ?_⟩
      · rw [wI_at, jx_up_self, if_pos c57]
      · rw [if_pos c25, if_pos c57]
theorem sugS {x : Int32} (h : bdI x 0 9) : bdI (if x - 1 < 0 then 0 else x - 1) 0 9 ∧ (if 0 < x then x - 1 else 0) = (if x - 1 < 0 then 0 else x - 1) := by
  obtain ⟨h1, h2⟩ := h
  have e : (x - 1).toInt = x.toInt - 1 := tI_sub (by omega) (by omega) (by decide) (by decide)
  have e0 : (0 : Int32).toInt = 0 := rfl
  by_cases c : x - 1 < 0
  · have c' := c
    rw [fa_lt, e, e0] at c'
    rw [if_pos c, if_neg (by rw [fa_lt, e0]; omega)]
    exact ⟨bd0 (by decide) (by decide), rfl⟩
  · have c' := c
    rw [fa_lt, e, e0] at c'
    rw [if_neg c, if_pos (by rw [fa_lt, e0]; omega)]
    exact ⟨⟨by omega, by omega⟩, rfl⟩
theorem sugD {x : Int32} (h : bdI x 0 99) : bdI (if 99 < x + 10 then 99 else x + 10) 0 99 := by
  obtain ⟨h1, h2⟩ := h
  have e : (x + 10).toInt = x.toInt + 10 := tI_add (by omega) (by omega) (by decide) (by decide)
  have e9 : (99 : Int32).toInt = 99 := rfl
  by_cases c : 99 < x + 10
  · rw [if_pos c]; exact ⟨by decide, by decide⟩
  · rw [if_neg c]
    rw [fa_lt, e, e9] at c
    exact ⟨by omega, by omega⟩
theorem op_sugar (x : Int32) : jo Inv 21 12074 [.int x] := jo_act (fun n h t nr rs X Y hn q => by
  obtain ⟨s, r1, r2, r3, ⟨⟨a1, -⟩, -⟩, l1, l2, l3, l4, l5, l6⟩ := q.cl
  obtain ⟨b1, -, -⟩ := q.mi
  obtain ⟨o, p1, p2, p3, p4⟩ := q.pa
  obtain ⟨-, -, -, -, ⟨-, rl, -⟩, -, ⟨-, wl, -⟩, -⟩ := id q
  by_cases G : isM x X.1.1.1 ∧ ¬ bkd X.2.1.2.2.2.2.1 x
  · obtain ⟨G1, G2⟩ := G
    obtain ⟨j, hj, rfl⟩ := isM_of G1 (by omega)
    have e3 : h.2.1 43 j = X.2.1.2.2.1 j := l3 j (by omega)
    have e2 : h.2.1 42 j = X.2.1.2.1 j := l2 j (by omega)
    obtain ⟨-, z1, z2⟩ := wl.1 j (by omega)
    refine Or.inr ⟨(if 99 < X.2.1.2.1 j + 10 then 99 else X.2.1.2.1 j + 10), (X.2.1.1, jx_up X.2.1.2.1 j (if 99 < X.2.1.2.1 j + 10 then 99 else X.2.1.2.1 j + 10), jx_up X.2.1.2.2.1 j (if X.2.1.2.2.1 j - 1 < 0 then 0 else X.2.1.2.2.1 j - 1), X.2.1.2.2.2), ((wl.up (Nat.le_succ n)).w3 (sugS z2).1).w2 (sugD z1), (t_Db_sugar 194 q.1 r1 r3 p2 p3 p1 p4 a1 hj b1 (by rw [l5]; exact G2)).mono (fun r h2 e => ?_), fun h1 S1 g1 m1 => ?_⟩
    · obtain ⟨rfl, h1, w1, rfl⟩ := e
      rw [e3, e2]
      exact ⟨rfl, h1, w1, (fC.rf.wI (by omega)).wI (by omega), (w1.cp rl).w3.w2⟩
    · obtain ⟨-, k2, k3⟩ := m1.la.1 j (by omega)
      refine (t_Mo_sugar 194 S1 m1.st.1.1 b1 m1.pa.1 p4 hj (by rw [m1.la.2.2.1]; exact G2)).mono (fun r h3 e => ?_)
      obtain ⟨rfl, h2, w1, rfl⟩ := e
      rw [k2, k3, (sugS z2).2]
      exact ⟨rfl, h2, w1, (fC.rf.wI (by omega)).wI (by omega), fun j _ _ => by rw [wI_ne _ _ _ (by decide), wI_ne _ _ _ (by decide)], (w1.la m1.la).w3.w2⟩
  · exact Or.inl ⟨-1, t_Db_sugar_n 194 q.1 r1 r3 x (by rw [a1, l5]; exact G), fun h1 S1 g1 m1 => t_Mo_sugar_n 194 S1 m1.st.1.1 b1 m1.pa.1 p4 x (by rw [m1.la.2.2.1]; exact G)⟩)
set_option maxHeartbeats 2000000 in
theorem t_Db_slice_n (d : Nat) {bc bs : Nat} {h : jx_H} {s : Nat} (H : jx_St h) (hr : h.2.2.2 26 0 = some s) (P : jx_Sp h s) (x y : Int32) (G : ¬ (((¬ x < 0 ∧ x < h.2.1 s 0) ∧ ¬ bkd (h.2.1 40 4) x) ∧ ¬ y < 1)) : jx_Tr (d + 5) bc bs 22 [.ref 1, .int x, .int y] h (fun r h' => r = some (.int (-1)) ∧ h' = h) := by
  refine jx_tr jM_Db_slice rfl rfl (lv := [some (.ref 1), some (.int x), some (.int y)]) rfl ?_
  refine je_aload0 (pc := 0) d22_0 rfl ?_
  refine je_iload1 (pc := 1) d22_1 rfl ?_
  refine ju_callv (pc := 2) (as := [_]) d22_2 jL_0_191 jM_Db_isSoft rfl (by decide) (sK1 H) rfl (by exact Nat.le_of_ble_eq_true rfl) (t_Db_isSoft (d + 2) H hr P _) (fun r2 h2 q2 => ?_)
  obtain ⟨rfl, e2⟩ := q2
  obtain rfl := e2.symm
  refine je_ifeq (pc := 5) 29 d22_5 (by decide) (fun c5 => ?_) (fun c5 => ?_)
  · refine je_iconst (pc := 29) (v := -1) d22_29 rfl ?_
    refine je_iret (pc := 30) d22_30 rfl ?_
    exact ⟨rfl, rfl⟩
  · refine je_iload2 (pc := 8) d22_8 rfl ?_
    refine je_iconst (pc := 9) (v := 1) d22_9 rfl ?_
    refine je_iclt (pc := 10) 29 d22_10 (by decide) (fun c10 => ?_) (fun c10 => ?_)
    · refine je_iconst (pc := 29) (v := -1) d22_29 rfl ?_
      refine je_iret (pc := 30) d22_30 rfl ?_
      exact ⟨rfl, rfl⟩
    · exact absurd ⟨b2_n c5, c10⟩ G
set_option maxHeartbeats 2000000 in
theorem t_Db_slice_m (d : Nat) {bc bs : Nat} {h : jx_H} {s : Nat} (H : jx_St h) (hr : h.2.2.2 26 0 = some s) (P : jx_Sp h s) {j mi : Nat} (y : Int32) (hm : h.2.1 s 0 = nI mi) (hj : j < mi) (hmi : mi ≤ 10) (G : ¬ bkd (h.2.1 40 4) (nI j)) (hy : ¬ y < 1) (hd : h.2.1 42 j < y) : jx_Tr (d + 5) bc bs 22 [.ref 1, .int (nI j), .int y] h (fun r h' => r = some (.int (-1)) ∧ h' = h) := by
  refine jx_tr jM_Db_slice rfl rfl (lv := [some (.ref 1), some (.int (nI j)), some (.int y)]) rfl ?_
  refine je_aload0 (pc := 0) d22_0 rfl ?_
  refine je_iload1 (pc := 1) d22_1 rfl ?_
  refine ju_callv (pc := 2) (as := [_]) d22_2 jL_0_191 jM_Db_isSoft rfl (by decide) (sK1 H) rfl (by exact Nat.le_of_ble_eq_true rfl) (t_Db_isSoft (d + 2) H hr P _) (fun r2 h2 q2 => ?_)
  obtain ⟨rfl, e2⟩ := q2
  obtain rfl := e2.symm
  refine je_ifeq (pc := 5) 29 d22_5 (by decide) (fun c5 => absurd c5 (fun z => b2_0.mp z ⟨by rw [hm]; exact isM_nI hj (by omega), G⟩)) (fun c5 => ?_)
  refine je_iload2 (pc := 8) d22_8 rfl ?_
  refine je_iconst (pc := 9) (v := 1) d22_9 rfl ?_
  refine je_iclt (pc := 10) 29 d22_10 (by decide) (fun c10 => absurd c10 hy) (fun c10 => ?_)
  refine je_iload2 (pc := 13) d22_13 rfl ?_
  refine je_aload0 (pc := 14) d22_14 rfl ?_
  refine ju_getr (pc := 15) (b := 26) d22_15 jF_0_41 rfl (sK1 H) (sR1_5 H) ?_
  refine ju_getr (pc := 18) (b := 40) d22_18 jF_0_124 rfl (sK26 H) (sR26_1 H) ?_
  refine ju_getr (pc := 21) (b := 42) d22_21 jF_0_134 rfl (sK40 H) (sR40_1 H) ?_
  refine je_iload1 (pc := 24) d22_24 rfl ?_
  refine ju_iald (pc := 25) (jn := (j)) d22_25 (sK42 H) (vp_in_nI (by omega) (by decide)) (nI_clamp (by omega)) ?_
  refine ju_icle (pc := 26) 31 d22_26 (by decide) (fun c26 => absurd c26 (fun z => z hd)) (fun c26 => ?_)
  refine je_iconst (pc := 29) (v := -1) d22_29 rfl ?_
  refine je_iret (pc := 30) d22_30 rfl ?_
  exact ⟨rfl, rfl⟩
set_option maxHeartbeats 2000000 in
theorem t_Db_slice (d : Nat) {bc bs : Nat} {h : jx_H} {s : Nat} (H : jx_St h) (hr : h.2.2.2 26 0 = some s) (P : jx_Sp h s) {o k : Nat} (h9 : h.2.1 26 9 = nI o) (h10 : h.2.1 26 10 = nI k) (ho : o < 20) (hk : k ≤ 20) {j mi : Nat} (y : Int32) (hm : h.2.1 s 0 = nI mi) (hj : j < mi) (hmi : mi ≤ 10) (G : ¬ bkd (h.2.1 40 4) (nI j)) (hy : ¬ y < 1) (hd : ¬ h.2.1 42 j < y) : jx_Tr (d + 5) bc bs 22 [.ref 1, .int (nI j), .int y] h (fun r h' => r = some (.int (h.2.1 42 j - y)) ∧ ∃ h1, remP h h1 ∧ h' = jx_wI h1 42 j (h.2.1 42 j - y)) := by
  refine jx_tr jM_Db_slice rfl rfl (lv := [some (.ref 1), some (.int (nI j)), some (.int y)]) rfl ?_
  refine je_aload0 (pc := 0) d22_0 rfl ?_
  refine je_iload1 (pc := 1) d22_1 rfl ?_
  refine ju_callv (pc := 2) (as := [_]) d22_2 jL_0_191 jM_Db_isSoft rfl (by decide) (sK1 H) rfl (by exact Nat.le_of_ble_eq_true rfl) (t_Db_isSoft (d + 2) H hr P _) (fun r2 h2 q2 => ?_)
  obtain ⟨rfl, e2⟩ := q2
  obtain rfl := e2.symm
  refine je_ifeq (pc := 5) 29 d22_5 (by decide) (fun c5 => absurd c5 (fun z => b2_0.mp z ⟨by rw [hm]; exact isM_nI hj (by omega), G⟩)) (fun c5 => ?_)
  refine je_iload2 (pc := 8) d22_8 rfl ?_
  refine je_iconst (pc := 9) (v := 1) d22_9 rfl ?_
  refine je_iclt (pc := 10) 29 d22_10 (by decide) (fun c10 => absurd c10 hy) (fun c10 => ?_)
  refine je_iload2 (pc := 13) d22_13 rfl ?_
  refine je_aload0 (pc := 14) d22_14 rfl ?_
  refine ju_getr (pc := 15) (b := 26) d22_15 jF_0_41 rfl (sK1 H) (sR1_5 H) ?_
  refine ju_getr (pc := 18) (b := 40) d22_18 jF_0_124 rfl (sK26 H) (sR26_1 H) ?_
  refine ju_getr (pc := 21) (b := 42) d22_21 jF_0_134 rfl (sK40 H) (sR40_1 H) ?_
  refine je_iload1 (pc := 24) d22_24 rfl ?_
  refine ju_iald (pc := 25) (jn := (j)) d22_25 (sK42 H) (vp_in_nI (by omega) (by decide)) (nI_clamp (by omega)) ?_
  refine ju_icle (pc := 26) 31 d22_26 (by decide) (fun c26 => ?_) (fun c26 => absurd c26 hd)
  refine je_aload0 (pc := 31) d22_31 rfl ?_
  refine ju_getr (pc := 32) (b := 26) d22_32 jF_0_41 rfl (sK1 H) (sR1_5 H) ?_
  refine ju_callv (pc := 35) (as := []) d22_35 jL_0_180 jM_Wo_remember rfl (by decide) (sK26 H) rfl (by exact Nat.le_of_ble_eq_true rfl) (t_Wo_remember (d + 0) H h9 h10 ho hk) (fun r35 h35 q35 => ?_)
  obtain ⟨rfl, w⟩ := q35
  have H2 := w.1.St H
  refine je_aload0 (pc := 38) d22_38 rfl ?_
  refine ju_getr (pc := 39) (b := 26) d22_39 jF_0_41 rfl (sK1 H2) (sR1_5 H2) ?_
  refine ju_getr (pc := 42) (b := 40) d22_42 jF_0_124 rfl (sK26 H2) (sR26_1 H2) ?_
  refine ju_getr (pc := 45) (b := 42) d22_45 jF_0_134 rfl (sK40 H2) (sR40_1 H2) ?_
  refine je_iload1 (pc := 48) d22_48 rfl ?_
  refine je_dup2 (pc := 49) d22_49 rfl rfl ?_
  refine ju_iald (pc := 50) (jn := (j)) d22_50 (sK42 H2) (vp_in_nI (by omega) (by decide)) (nI_clamp (by omega)) ?_
  refine ju_eqi (v := h.2.1 42 j) (by rw [w.1.2 42 (by omega)]) ?_
  refine je_iload2 (pc := 51) d22_51 rfl ?_
  refine je_isub (pc := 52) d22_52 ?_
  refine ju_iast (pc := 53) (jn := (j)) d22_53 (sK42 H2) (vp_in_nI (by omega) (by decide)) (nI_clamp (by omega)) ?_
  refine je_aload0 (pc := 54) d22_54 rfl ?_
  refine ju_getr (pc := 55) (b := 26) d22_55 jF_0_41 rfl (sK1 H2.wI) (sR1_5 H2.wI) ?_
  refine ju_getr (pc := 58) (b := 40) d22_58 jF_0_124 rfl (sK26 H2.wI) (sR26_1 H2.wI) ?_
  refine ju_getr (pc := 61) (b := 42) d22_61 jF_0_134 rfl (sK40 H2.wI) (sR40_1 H2.wI) ?_
  refine je_iload1 (pc := 64) d22_64 rfl ?_
  refine ju_iald (pc := 65) (jn := (j)) d22_65 (sK42 H2.wI) (vp_in_nI (by omega) (by decide)) (nI_clamp (by omega)) ?_
  refine ju_eqi (v := h.2.1 42 j - y) (by rw [wI_at, jx_up_self]) ?_
  refine je_iret (pc := 66) d22_66 rfl ?_
  exact ⟨rfl, _, w, rfl⟩
theorem in_1 (x : Int32) {n : Nat} (hn : n < 2 ^ 31) : b2 ((1 : Int64) ≤ x.toInt64 ∧ x.toInt64 ≤ (nI n).toInt64) = b2 (¬ x < 1 ∧ ¬ nI n < x) := by
  refine b2_c ?_
  rw [show (1 : Int64) = (1 : Int32).toInt64 from rfl, fa_wide_le, fa_wide_le, fa_le, fa_le, fa_lt, fa_lt]
  omega
set_option maxHeartbeats 2000000 in
theorem t_Mo_slice_n (d : Nat) {bc bs : Nat} {h : jx_H} {mi k : Nat} (H : jx_St h) (hm : h.2.1 254 0 = nI mi) (hmi : mi ≤ 10) (h51 : h.2.1 253 51 = nI k) (hk : k ≤ 20) (x y : Int32) (G : ¬ ((isM x mi ∧ ¬ bkd (h.2.1 254 4) x) ∧ ¬ y < 1 ∧ ¬ 99 < y)) : jx_Tr (d + 5) bc bs 12075 [.ref 253, .int x, .int y] h (fun r h' => r = some (.int (-1)) ∧ h' = h) := by
  refine jx_tr jM_Mo_slice rfl rfl (lv := [some (.ref 253), some (.int x), some (.int y)]) rfl ?_
  refine je_aload0 (pc := 0) d12075_0 rfl ?_
  refine je_iload1 (pc := 1) d12075_1 rfl ?_
  refine ju_callv (pc := 2) (as := [_]) d12075_2 jL_12_463 jM_Mo_isSoft rfl (by decide) (sK253 H) rfl (by exact Nat.le_of_ble_eq_true rfl) (t_Mo_isSoft (d + 1) H _ hm (by omega)) (fun r2 h2 q2 => ?_)
  obtain ⟨rfl, e2⟩ := q2
  obtain rfl := e2.symm
  refine je_ifeq (pc := 5) 30 d12075_5 (by decide) (fun c5 => ?_) (fun c5 => ?_)
  · refine je_iconst (pc := 30) (v := -1) d12075_30 rfl ?_
    refine je_iret (pc := 31) d12075_31 rfl ?_
    exact ⟨rfl, rfl⟩
  · refine je_iload2 (pc := 8) d12075_8 rfl ?_
    refine je_i2l (pc := 9) d12075_9 ?_
    refine je_lconst1 (pc := 10) d12075_10 ?_
    refine je_ldc2 (pc := 11) d12075_11 jK_12_473 ?_
    refine ju_calls (pc := 14) (as := [_, _, _]) d12075_14 jL_12_170 jM_Mo_in rfl rfl (by exact Nat.le_of_ble_eq_true rfl) (t_Mo_in (d + 3) _ _ _) (fun r14 h14 q14 => ?_)
    obtain ⟨rfl, e14⟩ := q14
    obtain rfl := e14.symm
    refine ju_eqi (v := b2 (¬ y < 1 ∧ ¬ 99 < y)) (in_1 y (n := 99) (by decide)) ?_
    refine je_ifeq (pc := 17) 30 d12075_17 (by decide) (fun c17 => ?_) (fun c17 => ?_)
    · refine je_iconst (pc := 30) (v := -1) d12075_30 rfl ?_
      refine je_iret (pc := 31) d12075_31 rfl ?_
      exact ⟨rfl, rfl⟩
    · exact absurd ⟨b2_n c5, b2_n c17⟩ G
set_option maxHeartbeats 2000000 in
theorem t_Mo_slice_m (d : Nat) {bc bs : Nat} {h : jx_H} {mi k : Nat} (H : jx_St h) (hm : h.2.1 254 0 = nI mi) (hmi : mi ≤ 10) (h51 : h.2.1 253 51 = nI k) (hk : k ≤ 20) {j : Nat} (y : Int32) (hj : j < mi) (G : ¬ bkd (h.2.1 254 4) (nI j)) (hy : ¬ y < 1 ∧ ¬ 99 < y) (hd : h.2.1 256 j < y) : jx_Tr (d + 5) bc bs 12075 [.ref 253, .int (nI j), .int y] h (fun r h' => r = some (.int (-1)) ∧ h' = h) := by
  refine jx_tr jM_Mo_slice rfl rfl (lv := [some (.ref 253), some (.int (nI j)), some (.int y)]) rfl ?_
  refine je_aload0 (pc := 0) d12075_0 rfl ?_
  refine je_iload1 (pc := 1) d12075_1 rfl ?_
  refine ju_callv (pc := 2) (as := [_]) d12075_2 jL_12_463 jM_Mo_isSoft rfl (by decide) (sK253 H) rfl (by exact Nat.le_of_ble_eq_true rfl) (t_Mo_isSoft (d + 1) H _ hm (by omega)) (fun r2 h2 q2 => ?_)
  obtain ⟨rfl, e2⟩ := q2
  obtain rfl := e2.symm
  refine je_ifeq (pc := 5) 30 d12075_5 (by decide) (fun c5 => absurd c5 (fun z => b2_0.mp z ⟨isM_nI hj (by omega), G⟩)) (fun c5 => ?_)
  refine je_iload2 (pc := 8) d12075_8 rfl ?_
  refine je_i2l (pc := 9) d12075_9 ?_
  refine je_lconst1 (pc := 10) d12075_10 ?_
  refine je_ldc2 (pc := 11) d12075_11 jK_12_473 ?_
  refine ju_calls (pc := 14) (as := [_, _, _]) d12075_14 jL_12_170 jM_Mo_in rfl rfl (by exact Nat.le_of_ble_eq_true rfl) (t_Mo_in (d + 3) _ _ _) (fun r14 h14 q14 => ?_)
  obtain ⟨rfl, e14⟩ := q14
  obtain rfl := e14.symm
  refine ju_eqi (v := b2 (¬ y < 1 ∧ ¬ 99 < y)) (in_1 y (n := 99) (by decide)) ?_
  refine je_ifeq (pc := 17) 30 d12075_17 (by decide) (fun c17 => absurd c17 (fun z => b2_0.mp z hy)) (fun c17 => ?_)
  refine je_aload0 (pc := 20) d12075_20 rfl ?_
  refine ju_getr (pc := 21) (b := 256) d12075_21 jF_12_16 rfl (sK253 H) (sR253_3 H) ?_
  refine je_iload1 (pc := 24) d12075_24 rfl ?_
  refine ju_iald (pc := 25) (jn := (j)) d12075_25 (sK256 H) (vp_in_nI (by omega) (by decide)) (nI_clamp (by omega)) ?_
  refine je_iload2 (pc := 26) d12075_26 rfl ?_
  refine ju_icge (pc := 27) 32 d12075_27 (by decide) (fun c27 => absurd c27 (fun z => z hd)) (fun c27 => ?_)
  refine je_iconst (pc := 30) (v := -1) d12075_30 rfl ?_
  refine je_iret (pc := 31) d12075_31 rfl ?_
  exact ⟨rfl, rfl⟩
set_option maxHeartbeats 2000000 in
theorem t_Mo_slice (d : Nat) {bc bs : Nat} {h : jx_H} {mi k : Nat} (H : jx_St h) (hm : h.2.1 254 0 = nI mi) (hmi : mi ≤ 10) (h51 : h.2.1 253 51 = nI k) (hk : k ≤ 20) {j : Nat} (y : Int32) (hj : j < mi) (G : ¬ bkd (h.2.1 254 4) (nI j)) (hy : ¬ y < 1 ∧ ¬ 99 < y) (hd : ¬ h.2.1 256 j < y) : jx_Tr (d + 5) bc bs 12075 [.ref 253, .int (nI j), .int y] h (fun r h' => r = some (.int (h.2.1 256 j - y)) ∧ ∃ h1, keeP h h1 ∧ h' = jx_wI h1 256 j (h.2.1 256 j - y)) := by
  refine jx_tr jM_Mo_slice rfl rfl (lv := [some (.ref 253), some (.int (nI j)), some (.int y)]) rfl ?_
  refine je_aload0 (pc := 0) d12075_0 rfl ?_
  refine je_iload1 (pc := 1) d12075_1 rfl ?_
  refine ju_callv (pc := 2) (as := [_]) d12075_2 jL_12_463 jM_Mo_isSoft rfl (by decide) (sK253 H) rfl (by exact Nat.le_of_ble_eq_true rfl) (t_Mo_isSoft (d + 1) H _ hm (by omega)) (fun r2 h2 q2 => ?_)
  obtain ⟨rfl, e2⟩ := q2
  obtain rfl := e2.symm
  refine je_ifeq (pc := 5) 30 d12075_5 (by decide) (fun c5 => absurd c5 (fun z => b2_0.mp z ⟨isM_nI hj (by omega), G⟩)) (fun c5 => ?_)
  refine je_iload2 (pc := 8) d12075_8 rfl ?_
  refine je_i2l (pc := 9) d12075_9 ?_
  refine je_lconst1 (pc := 10) d12075_10 ?_
  refine je_ldc2 (pc := 11) d12075_11 jK_12_473 ?_
  refine ju_calls (pc := 14) (as := [_, _, _]) d12075_14 jL_12_170 jM_Mo_in rfl rfl (by exact Nat.le_of_ble_eq_true rfl) (t_Mo_in (d + 3) _ _ _) (fun r14 h14 q14 => ?_)
  obtain ⟨rfl, e14⟩ := q14
  obtain rfl := e14.symm
  refine ju_eqi (v := b2 (¬ y < 1 ∧ ¬ 99 < y)) (in_1 y (n := 99) (by decide)) ?_
  refine je_ifeq (pc := 17) 30 d12075_17 (by decide) (fun c17 => absurd c17 (fun z => b2_0.mp z hy)) (fun c17 => ?_)
  refine je_aload0 (pc := 20) d12075_20 rfl ?_
  refine ju_getr (pc := 21) (b := 256) d12075_21 jF_12_16 rfl (sK253 H) (sR253_3 H) ?_
  refine je_iload1 (pc := 24) d12075_24 rfl ?_
  refine ju_iald (pc := 25) (jn := (j)) d12075_25 (sK256 H) (vp_in_nI (by omega) (by decide)) (nI_clamp (by omega)) ?_
  refine je_iload2 (pc := 26) d12075_26 rfl ?_
  refine ju_icge (pc := 27) 32 d12075_27 (by decide) (fun c27 => ?_) (fun c27 => absurd c27 hd)
  refine je_aload0 (pc := 32) d12075_32 rfl ?_
  refine ju_callv (pc := 33) (as := []) d12075_33 jL_12_460 jM_Mo_keepsAct rfl (by decide) (sK253 H) rfl (by exact Nat.le_of_ble_eq_true rfl) (t_Mo_keepsAct (d + 0) H h51 hk) (fun r33 h33 q33 => ?_)
  obtain ⟨rfl, w⟩ := q33
  have H2 := w.1.St H
  refine je_aload0 (pc := 36) d12075_36 rfl ?_
  refine ju_getr (pc := 37) (b := 256) d12075_37 jF_12_16 rfl (sK253 H2) (sR253_3 H2) ?_
  refine je_iload1 (pc := 40) d12075_40 rfl ?_
  refine je_dup2 (pc := 41) d12075_41 rfl rfl ?_
  refine ju_iald (pc := 42) (jn := (j)) d12075_42 (sK256 H2) (vp_in_nI (by omega) (by decide)) (nI_clamp (by omega)) ?_
  refine ju_eqi (v := h.2.1 256 j) (by rw [w.1.2 256 (by omega)]) ?_
  refine je_iload2 (pc := 43) d12075_43 rfl ?_
  refine je_isub (pc := 44) d12075_44 ?_
  refine ju_iast (pc := 45) (jn := (j)) d12075_45 (sK256 H2) (vp_in_nI (by omega) (by decide)) (nI_clamp (by omega)) ?_
  refine je_aload0 (pc := 46) d12075_46 rfl ?_
  refine ju_getr (pc := 47) (b := 256) d12075_47 jF_12_16 rfl (sK253 H2.wI) (sR253_3 H2.wI) ?_
  refine je_iload1 (pc := 50) d12075_50 rfl ?_
  refine ju_iald (pc := 51) (jn := (j)) d12075_51 (sK256 H2.wI) (vp_in_nI (by omega) (by decide)) (nI_clamp (by omega)) ?_
  refine ju_eqi (v := h.2.1 256 j - y) (by rw [wI_at, jx_up_self]) ?_
  refine je_iret (pc := 52) d12075_52 rfl ?_
  exact ⟨rfl, _, w, rfl⟩
theorem op_slice (x y : Int32) : jo Inv 22 12075 [.int x, .int y] := jo_act (fun n h t nr rs X Y hn q => by
  obtain ⟨s, r1, r2, r3, ⟨⟨a1, -⟩, -⟩, l1, l2, l3, l4, l5, l6⟩ := q.cl
  obtain ⟨b1, -, -⟩ := q.mi
  obtain ⟨o, p1, p2, p3, p4⟩ := q.pa
  obtain ⟨-, -, -, -, ⟨-, rl, -⟩, -, ⟨-, wl, -⟩, -⟩ := id q
  by_cases G : (isM x X.1.1.1 ∧ ¬ bkd X.2.1.2.2.2.2.1 x) ∧ ¬ y < 1
  · obtain ⟨⟨G1, G2⟩, G3⟩ := G
    obtain ⟨j, hj, rfl⟩ := isM_of G1 (by omega)
    have e2 : h.2.1 42 j = X.2.1.2.1 j := l2 j (by omega)
    obtain ⟨-, z1, z2⟩ := wl.1 j (by omega)
    have e9 : (99 : Int32).toInt = 99 := rfl
    have e1 : (1 : Int32).toInt = 1 := rfl
    by_cases G4 : X.2.1.2.1 j < y
    · refine Or.inl ⟨-1, t_Db_slice_m 194 q.1 r1 r3 y a1 hj b1 (by rw [l5]; exact G2) G3 (by rw [e2]; exact G4), fun h1 S1 g1 m1 => ?_⟩
      by_cases G5 : 99 < y
      · exact t_Mo_slice_n 194 S1 m1.st.1.1 b1 m1.pa.1 p4 _ y (fun z => z.2.2 G5)
      · exact t_Mo_slice_m 194 S1 m1.st.1.1 b1 m1.pa.1 p4 y hj (by rw [m1.la.2.2.1]; exact G2) ⟨G3, G5⟩ (by rw [(m1.la.1 j (by omega)).2.1]; exact G4)
    · have hy : ¬ 99 < y := by
        rw [fa_lt] at G4 ⊢
        have := z1.2
        omega
      refine Or.inr ⟨X.2.1.2.1 j - y, (X.2.1.1, jx_up X.2.1.2.1 j (X.2.1.2.1 j - y), X.2.1.2.2), (wl.up (Nat.le_succ n)).w2 ?_, (t_Db_slice 194 q.1 r1 r3 p2 p3 p1 p4 y a1 hj b1 (by rw [l5]; exact G2) G3 (by rw [e2]; exact G4)).mono (fun r h2 e => ?_), fun h1 S1 g1 m1 => ?_⟩
      · rw [fa_lt] at G3 G4
        have := z1.1
        have := z1.2
        have e : (X.2.1.2.1 j - y).toInt = (X.2.1.2.1 j).toInt - y.toInt := tI_sub (by omega) (by omega) (by omega) (by omega)
        exact ⟨by omega, by omega⟩
      · obtain ⟨rfl, h1, w1, rfl⟩ := e
        rw [e2]
        exact ⟨rfl, h1, w1, fC.rf.wI (by omega), (w1.cp rl).w2⟩
      · have k2 := (m1.la.1 j (by omega)).2.1
        refine (t_Mo_slice 194 S1 m1.st.1.1 b1 m1.pa.1 p4 y hj (by rw [m1.la.2.2.1]; exact G2) ⟨G3, hy⟩ (by rw [k2]; exact G4)).mono (fun r h3 e => ?_)
        obtain ⟨rfl, h2, w1, rfl⟩ := e
        rw [k2]
        exact ⟨rfl, h2, w1, fC.rf.wI (by omega), fun j _ _ => by rw [wI_ne _ _ _ (by decide)], (w1.la m1.la).w2⟩
  · exact Or.inl ⟨-1, t_Db_slice_n 194 q.1 r1 r3 x y (by rw [a1, l5]; exact G), fun h1 S1 g1 m1 => t_Mo_slice_n 194 S1 m1.st.1.1 b1 m1.pa.1 p4 x y (by rw [m1.la.2.2.1]; exact fun z => G ⟨z.1, z.2.1⟩)⟩)
set_option maxHeartbeats 2000000 in
theorem t_Db_bake_n (d : Nat) {bc bs : Nat} {h : jx_H} {s : Nat} (H : jx_St h) (hr : h.2.2.2 26 0 = some s) (P : jx_Sp h s) (x : Int32) (G : ¬ ((¬ x < 0 ∧ x < h.2.1 s 0) ∧ ¬ bkd (h.2.1 40 4) x)) : jx_Tr (d + 5) bc bs 23 [.ref 1, .int x] h (fun r h' => r = some (.int (0)) ∧ h' = h) := by
  refine jx_tr jM_Db_bake rfl rfl (lv := [some (.ref 1), some (.int x)]) rfl ?_
  refine je_aload0 (pc := 0) d23_0 rfl ?_
  refine je_iload1 (pc := 1) d23_1 rfl ?_
  refine ju_callv (pc := 2) (as := [_]) d23_2 jL_0_191 jM_Db_isSoft rfl (by decide) (sK1 H) rfl (by exact Nat.le_of_ble_eq_true rfl) (t_Db_isSoft (d + 2) H hr P _) (fun r2 h2 q2 => ?_)
  obtain ⟨rfl, e2⟩ := q2
  obtain rfl := e2.symm
  refine je_ifne (pc := 5) 10 d23_5 (by decide) (fun c5 => absurd c5 (fun z => G (b2_n z))) (fun c5 => ?_)
  refine je_iconst (pc := 8) (v := 0) d23_8 rfl ?_
  refine je_zret (pc := 9) d23_9 rfl (by decide) ?_
  exact ⟨rfl, rfl⟩
set_option maxHeartbeats 2000000 in
theorem t_Db_bake (d : Nat) {bc bs : Nat} {h : jx_H} {s : Nat} (H : jx_St h) (hr : h.2.2.2 26 0 = some s) (P : jx_Sp h s) {o k : Nat} (h9 : h.2.1 26 9 = nI o) (h10 : h.2.1 26 10 = nI k) (ho : o < 20) (hk : k ≤ 20) {j mi : Nat} (hm : h.2.1 s 0 = nI mi) (hj : j < mi) (hmi : mi ≤ 10) (G : ¬ bkd (h.2.1 40 4) (nI j)) : jx_Tr (d + 5) bc bs 23 [.ref 1, .int (nI j)] h (fun r h' => r = some (.int (1)) ∧ ∃ h1, remP h h1 ∧ h' = jx_wI h1 40 4 (h.2.1 40 4 ||| (1 <<< (nI j &&& 31)))) := by
  refine jx_tr jM_Db_bake rfl rfl (lv := [some (.ref 1), some (.int (nI j))]) rfl ?_
  refine je_aload0 (pc := 0) d23_0 rfl ?_
  refine je_iload1 (pc := 1) d23_1 rfl ?_
  refine ju_callv (pc := 2) (as := [_]) d23_2 jL_0_191 jM_Db_isSoft rfl (by decide) (sK1 H) rfl (by exact Nat.le_of_ble_eq_true rfl) (t_Db_isSoft (d + 2) H hr P _) (fun r2 h2 q2 => ?_)
  obtain ⟨rfl, e2⟩ := q2
  obtain rfl := e2.symm
  refine je_ifne (pc := 5) 10 d23_5 (by decide) (fun c5 => ?_) (fun c5 => absurd c5 (fun z => b2_0.mp z ⟨by rw [hm]; exact isM_nI hj (by omega), G⟩))
  refine je_aload0 (pc := 10) d23_10 rfl ?_
  refine ju_getr (pc := 11) (b := 26) d23_11 jF_0_41 rfl (sK1 H) (sR1_5 H) ?_
  refine ju_callv (pc := 14) (as := []) d23_14 jL_0_180 jM_Wo_remember rfl (by decide) (sK26 H) rfl (by exact Nat.le_of_ble_eq_true rfl) (t_Wo_remember (d + 0) H h9 h10 ho hk) (fun r14 h14 q14 => ?_)
  obtain ⟨rfl, w⟩ := q14
  have H2 := w.1.St H
  refine je_aload0 (pc := 17) d23_17 rfl ?_
  refine ju_getr (pc := 18) (b := 26) d23_18 jF_0_41 rfl (sK1 H2) (sR1_5 H2) ?_
  refine ju_getr (pc := 21) (b := 40) d23_21 jF_0_124 rfl (sK26 H2) (sR26_1 H2) ?_
  refine je_dup (pc := 24) d23_24 rfl ?_
  refine ju_geti (pc := 25) d23_25 jF_0_217 rfl (sK40 H2) ?_
  refine ju_eqi (v := h.2.1 40 4) (by rw [w.1.2 40 (by omega)]) ?_
  refine je_iconst (pc := 28) (v := 1) d23_28 rfl ?_
  refine je_iload1 (pc := 29) d23_29 rfl ?_
  refine je_ishl (pc := 30) d23_30 ?_
  refine je_ior (pc := 31) d23_31 ?_
  refine ju_puti (pc := 32) d23_32 jF_0_217 rfl (sK40 H2) ?_
  refine je_iconst (pc := 35) (v := 1) d23_35 rfl ?_
  refine je_zret (pc := 36) d23_36 rfl (by decide) ?_
  exact ⟨rfl, _, w, rfl⟩
set_option maxHeartbeats 2000000 in
theorem t_Mo_bake_n (d : Nat) {bc bs : Nat} {h : jx_H} {mi k : Nat} (H : jx_St h) (hm : h.2.1 254 0 = nI mi) (hmi : mi ≤ 10) (h51 : h.2.1 253 51 = nI k) (hk : k ≤ 20) (x : Int32) (G : ¬ (isM x mi ∧ ¬ bkd (h.2.1 254 4) x)) : jx_Tr (d + 5) bc bs 12076 [.ref 253, .int x] h (fun r h' => r = some (.int (0)) ∧ h' = h) := by
  refine jx_tr jM_Mo_bake rfl rfl (lv := [some (.ref 253), some (.int x)]) rfl ?_
  refine je_aload0 (pc := 0) d12076_0 rfl ?_
  refine je_iload1 (pc := 1) d12076_1 rfl ?_
  refine ju_callv (pc := 2) (as := [_]) d12076_2 jL_12_463 jM_Mo_isSoft rfl (by decide) (sK253 H) rfl (by exact Nat.le_of_ble_eq_true rfl) (t_Mo_isSoft (d + 1) H _ hm (by omega)) (fun r2 h2 q2 => ?_)
  obtain ⟨rfl, e2⟩ := q2
  obtain rfl := e2.symm
  refine je_ifne (pc := 5) 10 d12076_5 (by decide) (fun c5 => absurd c5 (fun z => G (b2_n z))) (fun c5 => ?_)
  refine je_iconst (pc := 8) (v := 0) d12076_8 rfl ?_
  refine je_zret (pc := 9) d12076_9 rfl (by decide) ?_
  exact ⟨rfl, rfl⟩
set_option maxHeartbeats 2000000 in
theorem t_Mo_bake (d : Nat) {bc bs : Nat} {h : jx_H} {mi k : Nat} (H : jx_St h) (hm : h.2.1 254 0 = nI mi) (hmi : mi ≤ 10) (h51 : h.2.1 253 51 = nI k) (hk : k ≤ 20) {j : Nat} (hj : j < mi) (G : ¬ bkd (h.2.1 254 4) (nI j)) : jx_Tr (d + 5) bc bs 12076 [.ref 253, .int (nI j)] h (fun r h' => r = some (.int (1)) ∧ ∃ h1, keeP h h1 ∧ h' = jx_wI h1 254 4 (h.2.1 254 4 ||| (1 <<< (nI j &&& 31)))) := by
  refine jx_tr jM_Mo_bake rfl rfl (lv := [some (.ref 253), some (.int (nI j))]) rfl ?_
  refine je_aload0 (pc := 0) d12076_0 rfl ?_
  refine je_iload1 (pc := 1) d12076_1 rfl ?_
  refine ju_callv (pc := 2) (as := [_]) d12076_2 jL_12_463 jM_Mo_isSoft rfl (by decide) (sK253 H) rfl (by exact Nat.le_of_ble_eq_true rfl) (t_Mo_isSoft (d + 1) H _ hm (by omega)) (fun r2 h2 q2 => ?_)
  obtain ⟨rfl, e2⟩ := q2
  obtain rfl := e2.symm
  refine je_ifne (pc := 5) 10 d12076_5 (by decide) (fun c5 => ?_) (fun c5 => absurd c5 (fun z => b2_0.mp z ⟨isM_nI hj (by omega), G⟩))
  refine je_aload0 (pc := 10) d12076_10 rfl ?_
  refine ju_callv (pc := 11) (as := []) d12076_11 jL_12_460 jM_Mo_keepsAct rfl (by decide) (sK253 H) rfl (by exact Nat.le_of_ble_eq_true rfl) (t_Mo_keepsAct (d + 0) H h51 hk) (fun r11 h11 q11 => ?_)
  obtain ⟨rfl, w⟩ := q11
  have H2 := w.1.St H
  refine je_aload0 (pc := 14) d12076_14 rfl ?_
  refine ju_getr (pc := 15) (b := 254) d12076_15 jF_12_9 rfl (sK253 H2) (sR253_1 H2) ?_
  refine je_iconst (pc := 18) (v := 4) d12076_18 rfl ?_
  refine je_dup2 (pc := 19) d12076_19 rfl rfl ?_
  refine ju_iald (pc := 20) (jn := 4) d12076_20 (sK254 H2) (by first | assumption | exact jx_ok_dec (by decide)) (by decide) ?_
  refine ju_eqi (v := h.2.1 254 4) (by rw [w.1.2 254 (by omega)]) ?_
  refine je_iconst (pc := 21) (v := 1) d12076_21 rfl ?_
  refine je_iload1 (pc := 22) d12076_22 rfl ?_
  refine je_ishl (pc := 23) d12076_23 ?_
  refine je_ior (pc := 24) d12076_24 ?_
  refine ju_iast (pc := 25) (jn := 4) d12076_25 (sK254 H2) (by first | assumption | exact jx_ok_dec (by decide)) (by decide) ?_
  refine je_iconst (pc := 26) (v := 1) d12076_26 rfl ?_
  refine je_zret (pc := 27) d12076_27 rfl (by decide) ?_
  exact ⟨rfl, _, w, rfl⟩
theorem sh1 : ∀ j, j < 31 → (1 : Int32) <<< (nI j &&& 31) = nI (2 ^ j) := by decide +kernel
theorem bake_b {B j mi : Nat} (hB : B < 2 ^ mi) (hj : j < mi) (hmi : mi ≤ 10) : ∃ B', B' < 2 ^ mi ∧ nI B ||| (1 <<< (nI j &&& 31)) = nI B' := by
  refine ⟨B ||| 2 ^ j, Nat.or_lt_two_pow hB (Nat.pow_lt_pow_right (by decide) hj), ?_⟩
  rw [sh1 j (by omega), fa_or]
theorem op_bake (x : Int32) : jo Inv 23 12076 [.int x] := jo_act (fun n h t nr rs X Y hn q => by
  obtain ⟨s, r1, r2, r3, ⟨⟨a1, -⟩, -⟩, l1, l2, l3, l4, l5, l6⟩ := q.cl
  obtain ⟨b1, -, -⟩ := q.mi
  obtain ⟨o, p1, p2, p3, p4⟩ := q.pa
  obtain ⟨-, -, -, -, ⟨-, rl, -⟩, -, ⟨-, wl, -⟩, -⟩ := id q
  by_cases G : isM x X.1.1.1 ∧ ¬ bkd X.2.1.2.2.2.2.1 x
  · obtain ⟨G1, G2⟩ := G
    obtain ⟨j, hj, rfl⟩ := isM_of G1 (by omega)
    refine Or.inr ⟨1, (X.2.1.1, X.2.1.2.1, X.2.1.2.2.1, X.2.1.2.2.2.1, X.2.1.2.2.2.2.1 ||| (1 <<< (nI j &&& 31)), X.2.1.2.2.2.2.2), ?_, (t_Db_bake 194 q.1 r1 r3 p2 p3 p1 p4 a1 hj b1 (by rw [l5]; exact G2)).mono (fun r h2 e => ?_), fun h1 S1 g1 m1 => ?_⟩
    · obtain ⟨w1, w2, ⟨B, w3, w3'⟩, w4⟩ := wl.up (Nat.le_succ n)
      refine ⟨w1, w2, ?_, w4⟩
      show ∃ B', B' < _ ∧ X.2.1.2.2.2.2.1 ||| _ = nI B'
      rw [w3']
      exact bake_b w3 hj b1
    · obtain ⟨rfl, h1, w1, rfl⟩ := e
      rw [l5]
      exact ⟨rfl, h1, w1, fC.rf.wI (by omega), (w1.cp rl).wb⟩
    · refine (t_Mo_bake 194 S1 m1.st.1.1 b1 m1.pa.1 p4 hj (by rw [m1.la.2.2.1]; exact G2)).mono (fun r h3 e => ?_)
      obtain ⟨rfl, h2, w1, rfl⟩ := e
      rw [m1.la.2.2.1]
      exact ⟨rfl, h2, w1, fC.rf.wI (by omega), fun j h1 _ => by rw [wI_at, jx_up_ne _ _ h1], (w1.la m1.la).wb⟩
  · exact Or.inl ⟨0, t_Db_bake_n 194 q.1 r1 r3 x (by rw [a1, l5]; exact G), fun h1 S1 g1 m1 => t_Mo_bake_n 194 S1 m1.st.1.1 b1 m1.pa.1 p4 x (by rw [m1.la.2.2.1]; exact G)⟩)
set_option maxHeartbeats 2000000 in
theorem t_Db_undo_n (d : Nat) {bc bs : Nat} {h : jx_H} (H : jx_St h) (h10 : h.2.1 26 10 = 0) : jx_Tr (d + 5) bc bs 24 [.ref 1] h (fun r h' => r = some (.int (-2)) ∧ h' = h) := by
  refine jx_tr jM_Db_undo rfl rfl (lv := [some (.ref 1)]) rfl ?_
  refine je_aload0 (pc := 0) d24_0 rfl ?_
  refine ju_getr (pc := 1) (b := 26) d24_1 jF_0_41 rfl (sK1 H) (sR1_5 H) ?_
  refine ju_geti (pc := 4) d24_4 jF_0_220 rfl (sK26 H) ?_
  refine je_ifne (pc := 7) 13 d24_7 (by decide) (fun c7 => absurd c7 (fun z => z h10)) (fun c7 => ?_)
  refine je_bipush (pc := 10) (v := -2) d24_10 rfl ?_
  refine je_iret (pc := 12) d24_12 rfl ?_
  exact ⟨rfl, rfl⟩
set_option maxHeartbeats 2000000 in
theorem t_Db_undo (d : Nat) {bc bs : Nat} {h : jx_H} {o k : Nat} (H : jx_St h) (h9 : h.2.1 26 9 = nI o) (h10 : h.2.1 26 10 = nI (k + 1)) (ho : o < 20) (hk : k < 20) : jx_Tr (d + 5) bc bs 24 [.ref 1] h (fun r h' => r = some (.int (nI k)) ∧ fC (fun b => b = 26 ∨ 40 ≤ b ∧ b ≤ 44) h h' ∧ (∀ j, j ≠ 10 → h'.2.1 26 j = h.2.1 26 j) ∧ h'.2.1 26 10 = nI k ∧ ∀ L, cP (fun j => h.2.1 48 ((o + k) % 20 * 40 + j)) L → rL h'.2.1 40 L) := by
  refine jx_tr jM_Db_undo rfl rfl (lv := [some (.ref 1)]) rfl ?_
  refine je_aload0 (pc := 0) d24_0 rfl ?_
  refine ju_getr (pc := 1) (b := 26) d24_1 jF_0_41 rfl (sK1 H) (sR1_5 H) ?_
  refine ju_geti (pc := 4) d24_4 jF_0_220 rfl (sK26 H) ?_
  refine je_ifne (pc := 7) 13 d24_7 (by decide) (fun c7 => ?_) (fun c7 => absurd c7 (by rw [h10]; exact nI_ne0 (by omega) (by omega)))
  refine je_aload0 (pc := 13) d24_13 rfl ?_
  refine ju_getr (pc := 14) (b := 26) d24_14 jF_0_41 rfl (sK1 H) (sR1_5 H) ?_
  refine ju_callv (pc := 17) (as := []) d24_17 jL_0_223 jM_Wo_recall rfl (by decide) (sK26 H) rfl (by exact Nat.le_of_ble_eq_true rfl) (t_Wo_recall d H h9 h10 ho hk) (fun r17 h17 q17 => ?_)
  obtain ⟨rfl, w1, w2, w3, w4⟩ := q17
  have H2 := w1.St H
  refine je_aload0 (pc := 20) d24_20 rfl ?_
  refine ju_getr (pc := 21) (b := 26) d24_21 jF_0_41 rfl (sK1 H2) (sR1_5 H2) ?_
  refine ju_geti (pc := 24) d24_24 jF_0_220 rfl (sK26 H2) ?_
  refine ju_eqi (v := nI k) w3 ?_
  refine je_iret (pc := 27) d24_27 rfl ?_
  exact ⟨rfl, w1, w2, w3, w4⟩
set_option maxHeartbeats 2000000 in
theorem t_Mo_undo_n (d : Nat) {bc bs : Nat} {h : jx_H} (H : jx_St h) (h51 : h.2.1 253 51 = 0) : jx_Tr (d + 5) bc bs 12051 [.ref 253] h (fun r h' => r = some (.int (-2)) ∧ h' = h) := by
  refine jx_tr jM_Mo_undo rfl rfl (lv := [some (.ref 253)]) rfl ?_
  refine je_aload0 (pc := 0) d12051_0 rfl ?_
  refine ju_geti (pc := 1) d12051_1 jF_12_361 rfl (sK253 H) ?_
  refine je_ifne (pc := 4) 10 d12051_4 (by decide) (fun c4 => absurd c4 (fun z => z h51)) (fun c4 => ?_)
  refine je_bipush (pc := 7) (v := -2) d12051_7 rfl ?_
  refine je_iret (pc := 9) d12051_9 rfl ?_
  exact ⟨rfl, rfl⟩
set_option maxHeartbeats 2000000 in
theorem t_Mo_undo (d : Nat) {bc bs : Nat} {h : jx_H} {k : Nat} (H : jx_St h) (h51 : h.2.1 253 51 = nI (k + 1)) (hk : k < 20) : jx_Tr (d + 5) bc bs 12051 [.ref 253] h (fun r h' => r = some (.int (nI k)) ∧ fC (fun b => 253 ≤ b ∧ b ≤ 257 ∨ b = 262) h h' ∧ (∀ j, j ≠ 51 → j ≠ 52 → j ≠ 53 → h'.2.1 253 j = h.2.1 253 j) ∧ h'.2.1 253 51 = nI k ∧ (∀ j, j ≠ 4 → j ≠ 5 → h'.2.1 254 j = h.2.1 254 j) ∧ ∀ L, mP (fun j => h.2.1 292 (40 * k + j)) L → mLa h'.2.1 L) := by
  refine jx_tr jM_Mo_undo rfl rfl (lv := [some (.ref 253)]) rfl ?_
  refine je_aload0 (pc := 0) d12051_0 rfl ?_
  refine ju_geti (pc := 1) d12051_1 jF_12_361 rfl (sK253 H) ?_
  refine je_ifne (pc := 4) 10 d12051_4 (by decide) (fun c4 => ?_) (fun c4 => absurd c4 (by rw [h51]; exact nI_ne0 (by omega) (by omega)))
  refine je_aload0 (pc := 10) d12051_10 rfl ?_
  refine je_dup (pc := 11) d12051_11 rfl ?_
  refine ju_geti (pc := 12) d12051_12 jF_12_361 rfl (sK253 H) ?_
  refine ju_eqi (v := nI (k + 1)) h51 ?_
  refine je_iconst (pc := 15) (v := 1) d12051_15 rfl ?_
  refine je_isub (pc := 16) d12051_16 ?_
  refine ju_eqi (v := nI k) (nI_sub (b := 1) rfl) ?_
  refine ju_puti (pc := 17) d12051_17 jF_12_361 rfl (sK253 H) ?_
  refine je_aload0 (pc := 20) d12051_20 rfl ?_
  refine je_aload0 (pc := 21) d12051_21 rfl ?_
  refine ju_geti (pc := 22) d12051_22 jF_12_361 rfl (sK253 H.wI) ?_
  refine ju_eqi (v := nI k) (by rw [wI_at, jx_up_self]) ?_
  refine je_iconst (pc := 25) (v := 1) d12051_25 rfl ?_
  refine ju_callv (pc := 26) (as := [_, _]) d12051_26 jL_12_456 jM_Mo_movesAll rfl (by decide) (sK253 H.wI) rfl (by exact Nat.le_of_ble_eq_true rfl) (t_Mo_movesAll_b (d + 1) (k := k) H.wI hk) (fun r26 h26 q26 => ?_)
  obtain ⟨rfl, w1, w2, w3, w4⟩ := q26
  have H2 := w1.St H.wI
  refine je_aload0 (pc := 29) d12051_29 rfl ?_
  refine ju_geti (pc := 30) d12051_30 jF_12_361 rfl (sK253 H2) ?_
  refine ju_eqi (v := nI k) (by rw [w2 51 (by decide) (by decide), wI_at, jx_up_self]) ?_
  refine je_iret (pc := 33) d12051_33 rfl ?_
  refine ⟨rfl, (fC.rf.wI (by omega)).tr w1, fun j h1 h2 h3 => ?_, ?_, fun j h1 h2 => ?_, fun L hL => w4 L ?_⟩
  · rw [w2 j h2 h3, wI_at, jx_up_ne _ _ h1]
  · rw [w2 51 (by decide) (by decide), wI_at, jx_up_self]
  · rw [w3 j h1 h2, wI_ne _ _ _ (by decide)]
  · rw [wI_ne _ _ _ (by decide)]; exact hL
theorem op_undo : jo Inv 24 12051 [] := jo_st (fun n h t nr rs X Y hn q => by
  obtain ⟨Q1, Q2, Q3, Q4, Q5, Q6, Q7, Q8, Q9⟩ := id q
  obtain ⟨-, rl, rf, rg, o, p1, p2, p3, p5⟩ := id Q5
  obtain ⟨w1, w2, w3, w4, w5, w6, w7⟩ := Q7.up (Nat.le_succ n) (Nat.le_refl nr)
  by_cases c : X.2.2.2.2.1 = 0
  · rw [c] at p3
    refine ⟨-2, X, h, q.B, ⟨rfl, rfl⟩, ⟨w1, w2, w3, w4, w5, w6, w7⟩, Q8, (t_Db_undo_n 194 q.1 p3).mono (fun r h1 e => ?_), fun h1 S1 g1 m1 => (t_Mo_undo_n 194 S1 (by rw [m1.pa.1, c]; rfl)).mono (fun r h2 e => ?_)⟩
    · obtain ⟨rfl, rfl⟩ := e
      exact ⟨rfl, fC.rf, Q5⟩
    · obtain ⟨rfl, rfl⟩ := e
      exact ⟨rfl, fM.rf, m1⟩
  · obtain ⟨k, hk⟩ : ∃ k, X.2.2.2.2.1 = k + 1 := ⟨X.2.2.2.2.1 - 1, by omega⟩
    rw [hk] at p3
    refine ⟨nI k, (X.1, X.2.2.2.2.2 k, X.2.2.1, X.2.2.2.1, (k, X.2.2.2.2.2)), h, q.B, ⟨rfl, rfl⟩, ⟨w1, w7 k (by omega), w3, w4, w5, by show k ≤ 20; omega, fun i hi => w7 i (by have : i < k := hi; omega)⟩, Q8.of rfl rfl rfl, (t_Db_undo 194 q.1 p2 p3 p1 (by omega)).mono (fun r h1 e => ?_), fun h1 S1 g1 m1 => (t_Mo_undo 194 S1 (k := k) (by rw [m1.pa.1, hk]) (by omega)).mono (fun r h2 e => ?_)⟩
    · obtain ⟨rfl, e1, e2, e3, e4⟩ := e
      refine ⟨rfl, e1.mo (fun b hb => by unfold cRow kRow sRow; omega), Q5.ch e1 (fun b hb => by unfold sRow; omega) rfl (e4 _ (p5 k (by omega))) ?_ ?_ ⟨o, p1, ?_, e3, fun i hi => ?_⟩⟩
      · rw [e2 2 (by decide), e2 3 (by decide)]; exact rf
      · rw [e2 4 (by decide), e1.2 (26 + 19) (by omega), e1.2 (26 + 20) (by omega), e1.2 (26 + 21) (by omega)]; exact rg
      · rw [e2 9 (by decide)]; exact p2
      · rw [e1.2 (26 + 22) (by omega)]
        exact p5 i (by have : i < k := hi; omega)
    · obtain ⟨rfl, e1, e2, e3, e4, e5⟩ := e
      refine ⟨rfl, fM.of e1 (fun b hb => by unfold mRow; omega) (e2 _ (by decide) (by decide) (by decide)) (e2 _ (by decide) (by decide) (by decide)) (e2 _ (by decide) (by decide) (by decide)), m1.mk rfl (fun a ha => e1.2 a (by omega)) (fun j hj => e4 j (by omega) (by omega)) (e5 _ (m1.pa.2 k (by omega))) ?_ ?_ ⟨e3, fun i hi => ?_⟩⟩
      · rw [e4 8 (by decide) (by decide), e4 7 (by decide) (by decide)]; exact m1.fx
      · rw [e4 6 (by decide) (by decide), e1.2 265 (by omega), e1.2 266 (by omega), e1.2 267 (by omega)]; exact m1.lg
      · rw [e1.2 292 (by omega)]
        exact m1.pa.2 i (by have : i < k := hi; omega))
