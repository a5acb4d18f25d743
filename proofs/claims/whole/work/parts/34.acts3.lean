/-! the model: acts are kept, taken back -/
theorem wI_id {h : jx_H} {a k : Nat} {v : Int32} (e : h.2.1 a k = v) : jx_wI h a k v = h := by
  have e1 : jx_up (h.2.1 a) k v = h.2.1 a := by
    funext j
    by_cases c : j = k
    · rw [c, jx_up_self, e]
    · rw [jx_up_ne _ _ c]
  have e2 : jx_row h.2.1 a (h.2.1 a) = h.2.1 := by
    funext b
    by_cases c : b = a
    · rw [c, jx_row_self]
    · rw [jx_row_ne _ _ c]
  unfold jx_wI
  rw [e1, e2]
set_option maxHeartbeats 2000000 in
theorem t_Mo_moves (d : Nat) {bc bs : Nat} {h : jx_H} {q : Nat} (H : jx_St h) (v : Int32) (hb : h.2.1 253 53 = 0) (hq : h.2.1 253 52 = nI q) (hq8 : q < 800) : jx_Tr (d + 1) bc bs 12053 [.ref 253, .int v] h (fun r h' => r = some (.int v) ∧ h' = jx_wI (jx_wI h 292 q v) 253 52 (nI (q + 1))) := by
  refine jx_tr jM_Mo_moves rfl rfl (lv := [some (.ref 253), some (.int v), none]) rfl ?_
  refine je_aload0 (pc := 0) d12053_0 rfl ?_
  refine ju_geti (pc := 1) d12053_1 jF_12_442 rfl (sK253 H) ?_
  refine je_ifeq (pc := 4) 19 d12053_4 (by decide) (fun c4 => ?_) (fun c4 => absurd c4 (fun z => z hb))
  refine je_iload1 (pc := 19) d12053_19 rfl ?_
  refine ju_istore2 (pc := 20) (lv' := [some _, some _, some _]) d12053_20 rfl rfl ?_
  refine je_aload0 (pc := 21) d12053_21 rfl ?_
  refine ju_getr (pc := 22) (b := 292) d12053_22 jF_12_130 rfl (sK253 H) (sR253_49 H) ?_
  refine je_aload0 (pc := 25) d12053_25 rfl ?_
  refine ju_geti (pc := 26) d12053_26 jF_12_446 rfl (sK253 H) ?_
  refine ju_eqi (v := nI q) hq ?_
  refine je_iload2 (pc := 29) d12053_29 rfl ?_
  refine ju_iast (pc := 30) (jn := (q)) d12053_30 (sK292 H) (vp_in_nI (by omega) (by decide)) (nI_clamp (by omega)) ?_
  refine je_aload0 (pc := 31) d12053_31 rfl ?_
  refine je_dup (pc := 32) d12053_32 rfl ?_
  refine ju_geti (pc := 33) d12053_33 jF_12_446 rfl (sK253 H.wI) ?_
  refine ju_eqi (v := nI q) (by rw [wI_ne _ _ _ (by decide)]; exact hq) ?_
  refine je_iconst (pc := 36) (v := 1) d12053_36 rfl ?_
  refine je_iadd (pc := 37) d12053_37 ?_
  refine ju_eqi (v := nI (q + 1)) (nI_1 q) ?_
  refine ju_puti (pc := 38) d12053_38 jF_12_446 rfl (sK253 H.wI) ?_
  refine je_iload2 (pc := 41) d12053_41 rfl ?_
  refine je_iret (pc := 42) d12053_42 rfl ?_
  exact ⟨rfl, rfl⟩
set_option maxHeartbeats 2000000 in
theorem t_Mo_moves_b (d : Nat) {bc bs : Nat} {h : jx_H} {q : Nat} (H : jx_St h) (v : Int32) (hb : h.2.1 253 53 = 1) (hq : h.2.1 253 52 = nI q) (hq8 : q < 800) : jx_Tr (d + 1) bc bs 12053 [.ref 253, .int v] h (fun r h' => r = some (.int (h.2.1 292 q)) ∧ h' = jx_wI h 253 52 (nI (q + 1))) := by
  refine jx_tr jM_Mo_moves rfl rfl (lv := [some (.ref 253), some (.int v), none]) rfl ?_
  refine je_aload0 (pc := 0) d12053_0 rfl ?_
  refine ju_geti (pc := 1) d12053_1 jF_12_442 rfl (sK253 H) ?_
  refine je_ifeq (pc := 4) 19 d12053_4 (by decide) (fun c4 => absurd c4 (by rw [hb]; decide)) (fun c4 => ?_)
  refine je_aload0 (pc := 7) d12053_7 rfl ?_
  refine ju_getr (pc := 8) (b := 292) d12053_8 jF_12_130 rfl (sK253 H) (sR253_49 H) ?_
  refine je_aload0 (pc := 11) d12053_11 rfl ?_
  refine ju_geti (pc := 12) d12053_12 jF_12_446 rfl (sK253 H) ?_
  refine ju_eqi (v := nI q) hq ?_
  refine ju_iald (pc := 15) (jn := (q)) d12053_15 (sK292 H) (vp_in_nI (by omega) (by decide)) (nI_clamp (by omega)) ?_
  refine je_goto (pc := 16) 20 d12053_16 (by decide) ?_
  refine ju_istore2 (pc := 20) (lv' := [some _, some _, some _]) d12053_20 rfl rfl ?_
  refine je_aload0 (pc := 21) d12053_21 rfl ?_
  refine ju_getr (pc := 22) (b := 292) d12053_22 jF_12_130 rfl (sK253 H) (sR253_49 H) ?_
  refine je_aload0 (pc := 25) d12053_25 rfl ?_
  refine ju_geti (pc := 26) d12053_26 jF_12_446 rfl (sK253 H) ?_
  refine ju_eqi (v := nI q) hq ?_
  refine je_iload2 (pc := 29) d12053_29 rfl ?_
  refine ju_iast (pc := 30) (jn := (q)) d12053_30 (sK292 H) (vp_in_nI (by omega) (by decide)) (nI_clamp (by omega)) ?_
  refine je_aload0 (pc := 31) d12053_31 rfl ?_
  refine je_dup (pc := 32) d12053_32 rfl ?_
  refine ju_geti (pc := 33) d12053_33 jF_12_446 rfl (sK253 H.wI) ?_
  refine ju_eqi (v := nI q) (by rw [wI_ne _ _ _ (by decide)]; exact hq) ?_
  refine je_iconst (pc := 36) (v := 1) d12053_36 rfl ?_
  refine je_iadd (pc := 37) d12053_37 ?_
  refine ju_eqi (v := nI (q + 1)) (nI_1 q) ?_
  refine ju_puti (pc := 38) d12053_38 jF_12_446 rfl (sK253 H.wI) ?_
  refine je_iload2 (pc := 41) d12053_41 rfl ?_
  refine je_iret (pc := 42) d12053_42 rfl ?_
  exact ⟨rfl, by rw [wI_id rfl]⟩
set_option maxHeartbeats 2000000 in
theorem t_Mo_movesRow (d : Nat) {bc bs : Nat} {h : jx_H} {a n q : Nat} (H : jx_St h) (Bk : h.1[a]? = some (.inl (1, n))) (hn : n ≤ 10) (ha : a ≠ 292 ∧ a ≠ 253) (hb : h.2.1 253 53 = 0) (hq : h.2.1 253 52 = nI q) (hq8 : q + n ≤ 800) : jx_Tr (d + 2) bc bs 12054 [.ref 253, .ref a] h (fun r h' => r = none ∧ fC (fun b => b = 292 ∨ b = 253) h h' ∧ (∀ j, j ≠ 52 → h'.2.1 253 j = h.2.1 253 j) ∧ h'.2.1 253 52 = nI (q + n) ∧ (∀ j, j < n → h'.2.1 292 (q + j) = h.2.1 a j) ∧ ∀ i, i < q ∨ q + n ≤ i → h'.2.1 292 i = h.2.1 292 i) := by
  refine jx_tr jM_Mo_movesRow rfl rfl (lv := [some (.ref 253), some (.ref a), none]) rfl ?_
  refine je_iconst (pc := 0) (v := 0) d12054_0 rfl ?_
  refine ju_istore2 (pc := 1) (lv' := [some _, some _, some _]) d12054_1 rfl rfl ?_
  refine je_loop (σ := Unit) (n) (fun k xx => [some (.ref 253), some (.ref a), some (.int (nI k))]) (fun k _ h' => fC (fun b => b = 292 ∨ b = 253) h h' ∧ (∀ j, j ≠ 52 → h'.2.1 253 j = h.2.1 253 j) ∧ h'.2.1 253 52 = nI (q + k) ∧ (∀ j, j < k → h'.2.1 292 (q + j) = h.2.1 a j) ∧ ∀ i, i < q ∨ q + k ≤ i → h'.2.1 292 i = h.2.1 292 i) (fun k xx h' hk e kk => ?_) (fun xx h' e => ?_) (0) () h (by omega) ⟨fC.rf, fun _ _ => rfl, hq, fun j hj => absurd hj (Nat.not_lt_zero j), fun _ _ => rfl⟩
  · obtain ⟨e1, e2, e3, e4, e5⟩ := e
    have H1 := e1.St H
    have Bk1 : h'.1[a]? = some (.inl (1, n)) := by rw [e1.1.1]; exact Bk
    refine je_iload2 (pc := 2) d12054_2 rfl ?_
    refine je_aload1 (pc := 3) d12054_3 rfl ?_
    refine je_alen (pc := 4) d12054_4 Bk1 (by decide) ?_
    refine ju_icge (pc := 5) 24 d12054_5 (by decide) (fun c5 => absurd c5 (fun z => z (nI_lt hk (by omega)))) (fun c5 => ?_)
    refine je_aload1 (pc := 8) d12054_8 rfl ?_
    refine je_iload2 (pc := 9) d12054_9 rfl ?_
    refine je_aload0 (pc := 10) d12054_10 rfl ?_
    refine je_aload1 (pc := 11) d12054_11 rfl ?_
    refine je_iload2 (pc := 12) d12054_12 rfl ?_
    refine ju_iald (pc := 13) (jn := (k)) d12054_13 Bk1 (vp_in_nI hk (by omega)) (nI_clamp (by omega)) ?_
    refine ju_callv (pc := 14) (as := [_]) d12054_14 jL_12_449 jM_Mo_moves rfl (by decide) (sK253 H1) rfl (by exact Nat.le_of_ble_eq_true rfl) (t_Mo_moves d (q := q + k) H1 _ (by rw [e2 53 (by decide)]; exact hb) e3 (by omega)) (fun r14 h14 q14 => ?_)
    obtain ⟨rfl, e14⟩ := q14
    subst e14
    refine ju_iast (pc := 17) (jn := (k)) d12054_17 Bk1 (vp_in_nI hk (by omega)) (nI_clamp (by omega)) ?_
    refine ju_inc (pc := 18) (y := 1) (lv' := [some _, some _, some _]) d12054_18 rfl rfl rfl ?_
    refine je_goto (pc := 21) 2 d12054_21 (by decide) ?_
    rw [nI_1 k, wI_id (by rw [wI_ne _ _ _ ha.2, wI_ne _ _ _ ha.1])]
    refine kk () _ ⟨(e1.wI (Or.inl rfl)).wI (Or.inr rfl), fun j hj => ?_, ?_, fun j hj => ?_, fun i hi => ?_⟩
    · rw [wI_at, jx_up_ne _ _ hj, wI_ne _ _ _ (by decide)]; exact e2 j hj
    · rw [wI_at, jx_up_self, Nat.add_assoc]
    · rw [wI_ne _ _ _ (by decide), wI_at]
      by_cases c : j = k
      · rw [c, jx_up_self, e1.2 a (by omega)]
      · rw [jx_up_ne _ _ (by omega)]; exact e4 j (by omega)
    · rw [wI_ne _ _ _ (by decide), wI_at, jx_up_ne _ _ (by omega)]; exact e5 i (by omega)
  · obtain ⟨e1, e2, e3, e4, e5⟩ := e
    have H1 := e1.St H
    have Bk1 : h'.1[a]? = some (.inl (1, n)) := by rw [e1.1.1]; exact Bk
    refine je_iload2 (pc := 2) d12054_2 rfl ?_
    refine je_aload1 (pc := 3) d12054_3 rfl ?_
    refine je_alen (pc := 4) d12054_4 Bk1 (by decide) ?_
    refine ju_icge (pc := 5) 24 d12054_5 (by decide) (fun c5 => ?_) (fun c5 => absurd c5 (nI_nlt (Nat.le_refl n) (by omega)))
    refine je_ret (pc := 24) d12054_24 rfl ?_
    exact ⟨rfl, e1, e2, e3, e4, e5⟩
set_option maxHeartbeats 2000000 in
theorem t_Mo_movesRow_b (d : Nat) {bc bs : Nat} {h : jx_H} {a n q : Nat} (H : jx_St h) (Bk : h.1[a]? = some (.inl (1, n))) (hn : n ≤ 10) (ha : a ≠ 292 ∧ a ≠ 253) (hb : h.2.1 253 53 = 1) (hq : h.2.1 253 52 = nI q) (hq8 : q + n ≤ 800) : jx_Tr (d + 2) bc bs 12054 [.ref 253, .ref a] h (fun r h' => r = none ∧ fC (fun b => b = a ∨ b = 253) h h' ∧ (∀ j, j ≠ 52 → h'.2.1 253 j = h.2.1 253 j) ∧ h'.2.1 253 52 = nI (q + n) ∧ ∀ j, j < n → h'.2.1 a j = h.2.1 292 (q + j)) := by
  refine jx_tr jM_Mo_movesRow rfl rfl (lv := [some (.ref 253), some (.ref a), none]) rfl ?_
  refine je_iconst (pc := 0) (v := 0) d12054_0 rfl ?_
  refine ju_istore2 (pc := 1) (lv' := [some _, some _, some _]) d12054_1 rfl rfl ?_
  refine je_loop (σ := Unit) (n) (fun k xx => [some (.ref 253), some (.ref a), some (.int (nI k))]) (fun k _ h' => fC (fun b => b = a ∨ b = 253) h h' ∧ (∀ j, j ≠ 52 → h'.2.1 253 j = h.2.1 253 j) ∧ h'.2.1 253 52 = nI (q + k) ∧ ∀ j, j < k → h'.2.1 a j = h.2.1 292 (q + j)) (fun k xx h' hk e kk => ?_) (fun xx h' e => ?_) (0) () h (by omega) ⟨fC.rf, fun _ _ => rfl, hq, fun j hj => absurd hj (Nat.not_lt_zero j)⟩
  · obtain ⟨e1, e2, e3, e4⟩ := e
    have H1 := e1.St H
    have Bk1 : h'.1[a]? = some (.inl (1, n)) := by rw [e1.1.1]; exact Bk
    refine je_iload2 (pc := 2) d12054_2 rfl ?_
    refine je_aload1 (pc := 3) d12054_3 rfl ?_
    refine je_alen (pc := 4) d12054_4 Bk1 (by decide) ?_
    refine ju_icge (pc := 5) 24 d12054_5 (by decide) (fun c5 => absurd c5 (fun z => z (nI_lt hk (by omega)))) (fun c5 => ?_)
    refine je_aload1 (pc := 8) d12054_8 rfl ?_
    refine je_iload2 (pc := 9) d12054_9 rfl ?_
    refine je_aload0 (pc := 10) d12054_10 rfl ?_
    refine je_aload1 (pc := 11) d12054_11 rfl ?_
    refine je_iload2 (pc := 12) d12054_12 rfl ?_
    refine ju_iald (pc := 13) (jn := (k)) d12054_13 Bk1 (vp_in_nI hk (by omega)) (nI_clamp (by omega)) ?_
    refine ju_callv (pc := 14) (as := [_]) d12054_14 jL_12_449 jM_Mo_moves rfl (by decide) (sK253 H1) rfl (by exact Nat.le_of_ble_eq_true rfl) (t_Mo_moves_b d (q := q + k) H1 _ (by rw [e2 53 (by decide)]; exact hb) e3 (by omega)) (fun r14 h14 q14 => ?_)
    obtain ⟨rfl, e14⟩ := q14
    subst e14
    refine ju_iast (pc := 17) (jn := (k)) d12054_17 Bk1 (vp_in_nI hk (by omega)) (nI_clamp (by omega)) ?_
    refine ju_inc (pc := 18) (y := 1) (lv' := [some _, some _, some _]) d12054_18 rfl rfl rfl ?_
    refine je_goto (pc := 21) 2 d12054_21 (by decide) ?_
    rw [nI_1 k]
    refine kk () _ ⟨(e1.wI (Or.inr rfl)).wI (Or.inl rfl), fun j hj => ?_, ?_, fun j hj => ?_⟩
    · rw [wI_ne _ _ _ (Ne.symm ha.2), wI_at, jx_up_ne _ _ hj]; exact e2 j hj
    · rw [wI_ne _ _ _ (Ne.symm ha.2), wI_at, jx_up_self, Nat.add_assoc]
    · rw [wI_at]
      by_cases c : j = k
      · rw [c, jx_up_self, e1.2 292 (by omega)]
      · rw [jx_up_ne _ _ (by omega), wI_ne _ _ _ ha.2]; exact e4 j (by omega)
  · obtain ⟨e1, e2, e3, e4⟩ := e
    have H1 := e1.St H
    have Bk1 : h'.1[a]? = some (.inl (1, n)) := by rw [e1.1.1]; exact Bk
    refine je_iload2 (pc := 2) d12054_2 rfl ?_
    refine je_aload1 (pc := 3) d12054_3 rfl ?_
    refine je_alen (pc := 4) d12054_4 Bk1 (by decide) ?_
    refine ju_icge (pc := 5) 24 d12054_5 (by decide) (fun c5 => ?_) (fun c5 => absurd c5 (nI_nlt (Nat.le_refl n) (by omega)))
    refine je_ret (pc := 24) d12054_24 rfl ?_
    exact ⟨rfl, e1, e2, e3, e4⟩
