/-! remember, recall -/
/-- an act's land joins the past -/
def pushP (p : Nat × (Nat → ML)) (L : ML) : Nat × (Nat → ML) := if p.1 = 20 then (20, fun i => if i = 19 then L else p.2 (i + 1)) else (p.1 + 1, fun i => if i = p.1 then L else p.2 i)
/-- the class's past -/
def cPa (h : jx_H) (o : Nat) (p : Nat × (Nat → ML)) : Prop := o < 20 ∧ h.2.1 26 9 = nI o ∧ h.2.1 26 10 = nI p.1 ∧ ∀ i, i < p.1 → cP (fun j => h.2.1 48 ((o + i) % 20 * 40 + j)) (p.2 i)
/-- what remembering does -/
def remP (h h' : jx_H) : Prop := fC (fun b => b = 26 ∨ b = 48) h h' ∧ (∀ j, j ≠ 9 → j ≠ 10 → h'.2.1 26 j = h.2.1 26 j) ∧ ∀ L p o, rL h.2.1 40 L → p.1 ≤ 20 → cPa h o p → ∃ o', cPa h' o' (pushP p L)
theorem pos20 {o k : Nat} (ho : o < 20) : (nI o + nI k) - (nI o + nI k) / 20 * 20 = (nI (o + k) - nI (o + k) / nI 20 * nI 20) := by rw [nI_add]; rfl
set_option maxHeartbeats 2000000 in
theorem t_Wo_placeOf (d : Nat) {bc bs : Nat} {h : jx_H} {o k : Nat} (H : jx_St h) (h9 : h.2.1 26 9 = nI o) (ho : o < 20) (hk : k ≤ 20) : jx_Tr (d + 1) bc bs 7003 [.ref 26, .int (nI k)] h (fun r h' => r = some (.int (nI ((o + k) % 20 * 40))) ∧ h' = h) := by
  refine jx_tr jM_Wo_placeOf rfl rfl (lv := [some (.ref 26), some (.int (nI k))]) rfl ?_
  refine je_aload0 (pc := 0) d7003_0 rfl ?_
  refine ju_geti (pc := 1) d7003_1 jF_7_58 rfl (sK26 H) ?_
  refine ju_eqi (v := nI o) h9 ?_
  refine je_iload1 (pc := 4) d7003_4 rfl ?_
  refine je_iadd (pc := 5) d7003_5 ?_
  refine ju_eqi (v := nI (o + k)) (nI_add o k) ?_
  refine je_bipush (pc := 6) (v := 20) d7003_6 rfl ?_
  refine je_irem (pc := 8) d7003_8 (by decide) ?_
  refine ju_eqi (v := nI ((o + k) % 20)) (pk_rem (d := 20) (by omega) (by omega) (by omega)) ?_
  refine je_bipush (pc := 9) (v := 40) d7003_9 rfl ?_
  refine je_imul (pc := 11) d7003_11 ?_
  refine ju_eqi (v := nI ((o + k) % 20 * 40)) (pk_mul _ 40) ?_
  refine je_iret (pc := 12) d7003_12 rfl ?_
  exact ⟨rfl, rfl⟩
theorem cPa_push {h h1 : jx_H} {o k : Nat} {L : ML} {P : Nat → ML} (ho : o < 20) (hk : k < 20) (hL : cP (fun j => h1.2.1 48 ((o + k) % 20 * 40 + j)) L) (hP : ∀ i, i < k → cP (fun j => h.2.1 48 ((o + i) % 20 * 40 + j)) (P i)) (e : ∀ i, i < (o + k) % 20 * 40 ∨ (o + k) % 20 * 40 + 40 ≤ i → h1.2.1 48 i = h.2.1 48 i) : ∀ i, i < k + 1 → cP (fun j => h1.2.1 48 ((o + i) % 20 * 40 + j)) ((fun i => if i = k then L else P i) i) := by
  intro i hi
  by_cases c : i = k
  · show cP _ (if i = k then L else P i)
    rw [if_pos c, c]; exact hL
  · show cP _ (if i = k then L else P i)
    rw [if_neg c]
    have hd : (o + i) % 20 * 40 + 40 ≤ (o + k) % 20 * 40 ∨ (o + k) % 20 * 40 + 40 ≤ (o + i) % 20 * 40 := by omega
    have e2 : ∀ j, j < 40 → h1.2.1 48 ((o + i) % 20 * 40 + j) = h.2.1 48 ((o + i) % 20 * 40 + j) := fun j hj => e _ (by omega)
    obtain ⟨c1, c2, c3, c4⟩ := hP i (by omega)
    refine ⟨fun m hm => ?_, fun v hv => ?_, ?_, ?_⟩
    · show h1.2.1 48 _ = _ ∧ h1.2.1 48 _ = _ ∧ h1.2.1 48 _ = _
      rw [e2 m (by omega), e2 (10 + m) (by omega), e2 (20 + m) (by omega)]; exact c1 m hm
    · show h1.2.1 48 _ = _
      rw [e2 (30 + v) (by omega)]; exact c2 v hv
    · show h1.2.1 48 _ = _
      rw [e2 38 (by omega)]; exact c3
    · show h1.2.1 48 _ = _
      rw [e2 39 (by omega)]; exact c4
theorem ne48 : ∀ c, 40 ≤ c → c ≤ 40 + 4 → c ≠ 48 := by intro c h1 h2; omega
theorem rem_a {h h1 : jx_H} {o k : Nat} (ho : o < 20) (h9 : h.2.1 26 9 = nI o) (h10 : h.2.1 26 10 = nI k) (hk : k < 20) (e1 : fC (fun c => c = 48) h h1) (e2 : h1.2.1 48 = wrR (h.2.1 48) (h.2.1 (40 + 1)) (h.2.1 (40 + 2)) (h.2.1 (40 + 3)) (h.2.1 (40 + 4)) ((o + k) % 20 * 40) (h.2.1 40 4) (h.2.1 40 5)) : remP h (jx_wI h1 26 10 (nI (k + 1))) := by
  refine ⟨(e1.mo (fun b hb => Or.inr hb)).wI (Or.inl rfl), fun j h1 h2 => ?_, fun L p o2 hL hp hC => ?_⟩
  · rw [wI_at, jx_up_ne _ _ h2, e1.2 26 (by omega)]
  · obtain ⟨a1, a2, a3, a4⟩ := hC
    have ep : p.1 = k := (nI_eq (by omega) (by omega)).mp (a3.symm.trans h10)
    have eo : o2 = o := (nI_eq (by omega) (by omega)).mp (a2.symm.trans h9)
    subst eo
    have e3 : pushP p L = (k + 1, fun i => if i = k then L else p.2 i) := by unfold pushP; rw [if_neg (by omega), ep]
    rw [e3]
    obtain ⟨l1, l2, l3, l4, l5, l6⟩ := hL
    refine ⟨o2, ho, by rw [wI_at, jx_up_ne _ _ (by decide), e1.2 26 (by omega)]; exact h9, by rw [wI_at, jx_up_self], ?_⟩
    rw [wI_ne _ _ _ (show 48 ≠ 26 by decide)]
    exact cPa_push ho hk (by rw [e2]; exact wrR_in _ _ _ _ _ _ _ _ l1 l2 l3 l4 l5 l6) (fun i hi => a4 i (by omega)) (fun i hi => by rw [e2]; exact wrR_out _ _ _ _ _ _ _ _ hi)
theorem rem_b {h h1 : jx_H} {o : Nat} (ho : o < 20) (h9 : h.2.1 26 9 = nI o) (h10 : h.2.1 26 10 = nI 20) (e1 : fC (fun c => c = 48) (jx_wI (jx_wI h 26 9 (nI ((o + 1) % 20))) 26 10 (nI 19)) h1) (e2 : h1.2.1 48 = wrR (h.2.1 48) (h.2.1 (40 + 1)) (h.2.1 (40 + 2)) (h.2.1 (40 + 3)) (h.2.1 (40 + 4)) (((o + 1) % 20 + 19) % 20 * 40) (h.2.1 40 4) (h.2.1 40 5)) : remP h (jx_wI h1 26 10 (nI 20)) := by
  have e3 : ∀ b, b ≠ 26 → b ≠ 48 → h1.2.1 b = h.2.1 b := fun b c1 c2 => by rw [e1.2 b c2, wI_ne _ _ _ c1, wI_ne _ _ _ c1]
  refine ⟨⟨e1.1, fun b hb => ?_⟩, fun j h1 h2 => ?_, fun L p o2 hL hp hC => ?_⟩
  · rw [wI_ne _ _ _ (fun z => hb (Or.inl z)), e3 b (fun z => hb (Or.inl z)) (fun z => hb (Or.inr z))]
  · rw [wI_at, jx_up_ne _ _ h2, e1.2 26 (by omega), wI_at, jx_up_ne _ _ h2, wI_at, jx_up_ne _ _ h1]
  · obtain ⟨a1, a2, a3, a4⟩ := hC
    have ep : p.1 = 20 := (nI_eq (by omega) (by omega)).mp (a3.symm.trans h10)
    have eo : o2 = o := (nI_eq (by omega) (by omega)).mp (a2.symm.trans h9)
    subst eo
    have e4 : pushP p L = (20, fun i => if i = 19 then L else p.2 (i + 1)) := by unfold pushP; rw [if_pos ep]
    rw [e4]
    obtain ⟨l1, l2, l3, l4, l5, l6⟩ := hL
    refine ⟨(o2 + 1) % 20, Nat.mod_lt _ (by omega), ?_, by rw [wI_at, jx_up_self], ?_⟩
    · rw [wI_at, jx_up_ne _ _ (by decide), e1.2 26 (by omega), wI_at, jx_up_ne _ _ (by decide), wI_at, jx_up_self]
    · rw [wI_ne _ _ _ (show 48 ≠ 26 by decide)]
      exact cPa_push (h := h) (k := 19) (P := fun i => p.2 (i + 1)) (Nat.mod_lt _ (by omega)) (by omega) (by rw [e2]; exact wrR_in _ _ _ _ _ _ _ _ l1 l2 l3 l4 l5 l6) (fun i hi => by
        have := a4 (i + 1) (by omega)
        rw [show ((o2 + 1) % 20 + i) % 20 = (o2 + (i + 1)) % 20 by omega]
        exact this) (fun i hi => by rw [e2]; exact wrR_out _ _ _ _ _ _ _ _ hi)
set_option maxHeartbeats 2000000 in
theorem t_Wo_remember_a (d : Nat) {bc bs : Nat} {h : jx_H} {o k : Nat} (H : jx_St h) (h9 : h.2.1 26 9 = nI o) (h10 : h.2.1 26 10 = nI k) (ho : o < 20) (hk : k < 20) : jx_Tr (d + 4) bc bs 7002 [.ref 26] h (fun r h' => r = none ∧ remP h h') := by
  refine jx_tr jM_Wo_remember rfl rfl (lv := [some (.ref 26)]) rfl ?_
  refine je_aload0 (pc := 0) d7002_0 rfl ?_
  refine ju_geti (pc := 1) d7002_1 jF_7_61 rfl (sK26 H) ?_
  refine ju_eqi (v := nI k) h10 ?_
  refine je_bipush (pc := 4) (v := 20) d7002_4 rfl ?_
  refine je_icne (pc := 6) 32 d7002_6 (by decide) (fun c6 => ?_) (fun c6 => absurd c6 (fun z => absurd ((nI_eq (b := 20) (by omega) (by omega)).mp z) (by omega)))
  refine je_aload0 (pc := 32) d7002_32 rfl ?_
  refine ju_getr (pc := 33) (b := 40) d7002_33 jF_7_21 rfl (sK26 H) (sR26_1 H) ?_
  refine je_aload0 (pc := 36) d7002_36 rfl ?_
  refine ju_getr (pc := 37) (b := 48) d7002_37 jF_7_39 rfl (sK26 H) (sR26_8 H) ?_
  refine je_aload0 (pc := 40) d7002_40 rfl ?_
  refine je_aload0 (pc := 41) d7002_41 rfl ?_
  refine ju_geti (pc := 42) d7002_42 jF_7_61 rfl (sK26 H) ?_
  refine ju_eqi (v := nI k) h10 ?_
  refine ju_callv (pc := 45) (as := [_]) d7002_45 jL_7_67 jM_Wo_placeOf rfl (by decide) (sK26 H) rfl (by exact Nat.le_of_ble_eq_true rfl) (t_Wo_placeOf (d + 2) (o := o) (k := k) H h9 ho (by omega)) (fun r45 h45 q45 => ?_)
  obtain ⟨rfl, e45⟩ := q45
  obtain rfl := e45.symm
  refine ju_callv (pc := 48) (as := [_, _]) d7002_48 jL_7_71 jM_La_writeTo rfl (by decide) (sK40 H) rfl (by exact Nat.le_of_ble_eq_true rfl) (t_La_writeTo (d + 1) (sL40 H) (sK48 H) (by omega) ne48) (fun r48 h48 q48 => ?_)
  obtain ⟨rfl, w1, w2⟩ := q48
  have H2 := w1.St H
  refine je_aload0 (pc := 51) d7002_51 rfl ?_
  refine je_dup (pc := 52) d7002_52 rfl ?_
  refine ju_geti (pc := 53) d7002_53 jF_7_61 rfl (sK26 H2) ?_
  refine ju_eqi (v := nI k) (by rw [w1.2 26 (by omega)]; exact h10) ?_
  refine je_iconst (pc := 56) (v := 1) d7002_56 rfl ?_
  refine je_iadd (pc := 57) d7002_57 ?_
  refine ju_eqi (v := nI (k + 1)) (nI_1 k) ?_
  refine ju_puti (pc := 58) d7002_58 jF_7_61 rfl (sK26 H2) ?_
  refine je_ret (pc := 61) d7002_61 rfl ?_
  exact ⟨rfl, rem_a ho h9 h10 hk w1 w2⟩
set_option maxHeartbeats 2000000 in
theorem t_Wo_remember_b (d : Nat) {bc bs : Nat} {h : jx_H} {o : Nat} (H : jx_St h) (h9 : h.2.1 26 9 = nI o) (h10 : h.2.1 26 10 = nI 20) (ho : o < 20) : jx_Tr (d + 4) bc bs 7002 [.ref 26] h (fun r h' => r = none ∧ remP h h') := by
  refine jx_tr jM_Wo_remember rfl rfl (lv := [some (.ref 26)]) rfl ?_
  refine je_aload0 (pc := 0) d7002_0 rfl ?_
  refine ju_geti (pc := 1) d7002_1 jF_7_61 rfl (sK26 H) ?_
  refine ju_eqi (v := nI 20) h10 ?_
  refine je_bipush (pc := 4) (v := 20) d7002_4 rfl ?_
  refine je_icne (pc := 6) 32 d7002_6 (by decide) (fun c6 => absurd c6 (fun z => z rfl)) (fun c6 => ?_)
  refine je_aload0 (pc := 9) d7002_9 rfl ?_
  refine je_aload0 (pc := 10) d7002_10 rfl ?_
  refine ju_geti (pc := 11) d7002_11 jF_7_58 rfl (sK26 H) ?_
  refine ju_eqi (v := nI o) h9 ?_
  refine je_iconst (pc := 14) (v := 1) d7002_14 rfl ?_
  refine je_iadd (pc := 15) d7002_15 ?_
  refine ju_eqi (v := nI (o + 1)) (nI_1 o) ?_
  refine je_bipush (pc := 16) (v := 20) d7002_16 rfl ?_
  refine je_irem (pc := 18) d7002_18 (by decide) ?_
  refine ju_eqi (v := nI ((o + 1) % 20)) (pk_rem (d := 20) (by omega) (by omega) (by omega)) ?_
  refine ju_puti (pc := 19) d7002_19 jF_7_58 rfl (sK26 H) ?_
  refine je_aload0 (pc := 22) d7002_22 rfl ?_
  refine je_dup (pc := 23) d7002_23 rfl ?_
  refine ju_geti (pc := 24) d7002_24 jF_7_61 rfl (sK26 H.wI) ?_
  refine ju_eqi (v := nI 20) (by rw [wI_at, jx_up_ne _ _ (by decide)]; exact h10) ?_
  refine je_iconst (pc := 27) (v := 1) d7002_27 rfl ?_
  refine je_isub (pc := 28) d7002_28 ?_
  refine ju_eqi (v := nI 19) (nI_sub (a := 20) (b := 1) (c := 19) rfl) ?_
  refine ju_puti (pc := 29) d7002_29 jF_7_61 rfl (sK26 H.wI) ?_
  refine je_aload0 (pc := 32) d7002_32 rfl ?_
  refine ju_getr (pc := 33) (b := 40) d7002_33 jF_7_21 rfl (sK26 H.wI.wI) (sR26_1 H.wI.wI) ?_
  refine je_aload0 (pc := 36) d7002_36 rfl ?_
  refine ju_getr (pc := 37) (b := 48) d7002_37 jF_7_39 rfl (sK26 H.wI.wI) (sR26_8 H.wI.wI) ?_
  refine je_aload0 (pc := 40) d7002_40 rfl ?_
  refine je_aload0 (pc := 41) d7002_41 rfl ?_
  refine ju_geti (pc := 42) d7002_42 jF_7_61 rfl (sK26 H.wI.wI) ?_
  refine ju_eqi (v := nI 19) (by rw [wI_at, jx_up_self]) ?_
  refine ju_callv (pc := 45) (as := [_]) d7002_45 jL_7_67 jM_Wo_placeOf rfl (by decide) (sK26 H.wI.wI) rfl (by exact Nat.le_of_ble_eq_true rfl) (t_Wo_placeOf (d + 2) (o := ((o + 1) % 20)) (k := 19) H.wI.wI (by rw [wI_at, jx_up_ne _ _ (by decide), wI_at, jx_up_self]) (Nat.mod_lt _ (by omega)) (by omega)) (fun r45 h45 q45 => ?_)
  obtain ⟨rfl, e45⟩ := q45
  obtain rfl := e45.symm
  refine ju_callv (pc := 48) (as := [_, _]) d7002_48 jL_7_71 jM_La_writeTo rfl (by decide) (sK40 H.wI.wI) rfl (by exact Nat.le_of_ble_eq_true rfl) (t_La_writeTo (d + 1) (sL40 H.wI.wI) (sK48 H.wI.wI) (by omega) ne48) (fun r48 h48 q48 => ?_)
  obtain ⟨rfl, w1, w2⟩ := q48
  have H2 := w1.St H.wI.wI
  refine je_aload0 (pc := 51) d7002_51 rfl ?_
  refine je_dup (pc := 52) d7002_52 rfl ?_
  refine ju_geti (pc := 53) d7002_53 jF_7_61 rfl (sK26 H2) ?_
  refine ju_eqi (v := nI 19) (by rw [w1.2 26 (by omega), wI_at, jx_up_self]) ?_
  refine je_iconst (pc := 56) (v := 1) d7002_56 rfl ?_
  refine je_iadd (pc := 57) d7002_57 ?_
  refine ju_eqi (v := nI 20) (nI_1 19) ?_
  refine ju_puti (pc := 58) d7002_58 jF_7_61 rfl (sK26 H2) ?_
  refine je_ret (pc := 61) d7002_61 rfl ?_
  refine ⟨rfl, rem_b ho h9 h10 w1 ?_⟩
  rw [w2]
  simp only [wI_ne _ _ _ (show 48 ≠ 26 by decide), wI_ne _ _ _ (show 40 + 1 ≠ 26 by decide), wI_ne _ _ _ (show 40 + 2 ≠ 26 by decide), wI_ne _ _ _ (show 40 + 3 ≠ 26 by decide), wI_ne _ _ _ (show 40 + 4 ≠ 26 by decide), wI_ne _ _ _ (show 40 ≠ 26 by decide)]
theorem t_Wo_remember (d : Nat) {bc bs : Nat} {h : jx_H} {o k : Nat} (H : jx_St h) (h9 : h.2.1 26 9 = nI o) (h10 : h.2.1 26 10 = nI k) (ho : o < 20) (hk : k ≤ 20) : jx_Tr (d + 4) bc bs 7002 [.ref 26] h (fun r h' => r = none ∧ remP h h') := by
  rcases Nat.lt_or_ge k 20 with c | c
  · exact t_Wo_remember_a d H h9 h10 ho c
  · exact t_Wo_remember_b d H h9 (by rw [h10, show k = 20 by omega]) ho
set_option maxHeartbeats 2000000 in
theorem t_Wo_recall (d : Nat) {bc bs : Nat} {h : jx_H} {o k : Nat} (H : jx_St h) (h9 : h.2.1 26 9 = nI o) (h10 : h.2.1 26 10 = nI (k + 1)) (ho : o < 20) (hk : k < 20) : jx_Tr (d + 4) bc bs 7004 [.ref 26] h (fun r h' => r = none ∧ fC (fun b => b = 26 ∨ 40 ≤ b ∧ b ≤ 44) h h' ∧ (∀ j, j ≠ 10 → h'.2.1 26 j = h.2.1 26 j) ∧ h'.2.1 26 10 = nI k ∧ ∀ L, cP (fun j => h.2.1 48 ((o + k) % 20 * 40 + j)) L → rL h'.2.1 40 L) := by
  refine jx_tr jM_Wo_recall rfl rfl (lv := [some (.ref 26)]) rfl ?_
  refine je_aload0 (pc := 0) d7004_0 rfl ?_
  refine ju_geti (pc := 1) d7004_1 jF_7_61 rfl (sK26 H) ?_
  refine ju_eqi (v := nI (k + 1)) h10 ?_
  refine ju_ifle (pc := 4) 36 d7004_4 (by decide) (fun c4 => absurd c4 (fun z => z (nI_lt (a := 0) (b := k + 1) (by omega) (by omega)))) (fun c4 => ?_)
  refine je_aload0 (pc := 7) d7004_7 rfl ?_
  refine je_dup (pc := 8) d7004_8 rfl ?_
  refine ju_geti (pc := 9) d7004_9 jF_7_61 rfl (sK26 H) ?_
  refine ju_eqi (v := nI (k + 1)) h10 ?_
  refine je_iconst (pc := 12) (v := 1) d7004_12 rfl ?_
  refine je_isub (pc := 13) d7004_13 ?_
  refine ju_eqi (v := nI k) (nI_sub (b := 1) rfl) ?_
  refine ju_puti (pc := 14) d7004_14 jF_7_61 rfl (sK26 H) ?_
  refine je_aload0 (pc := 17) d7004_17 rfl ?_
  refine ju_getr (pc := 18) (b := 40) d7004_18 jF_7_21 rfl (sK26 H.wI) (sR26_1 H.wI) ?_
  refine je_aload0 (pc := 21) d7004_21 rfl ?_
  refine ju_getr (pc := 22) (b := 48) d7004_22 jF_7_39 rfl (sK26 H.wI) (sR26_8 H.wI) ?_
  refine je_aload0 (pc := 25) d7004_25 rfl ?_
  refine je_aload0 (pc := 26) d7004_26 rfl ?_
  refine ju_geti (pc := 27) d7004_27 jF_7_61 rfl (sK26 H.wI) ?_
  refine ju_eqi (v := nI k) (by rw [wI_at, jx_up_self]) ?_
  refine ju_callv (pc := 30) (as := [_]) d7004_30 jL_7_67 jM_Wo_placeOf rfl (by decide) (sK26 H.wI) rfl (by exact Nat.le_of_ble_eq_true rfl) (t_Wo_placeOf (d + 2) (o := o) (k := k) H.wI (by rw [wI_at, jx_up_ne _ _ (by decide)]; exact h9) ho (by omega)) (fun r30 h30 q30 => ?_)
  obtain ⟨rfl, e30⟩ := q30
  obtain rfl := e30.symm
  refine ju_callv (pc := 33) (as := [_, _]) d7004_33 jL_7_75 jM_La_readFrom rfl (by decide) (sK40 H.wI) rfl (by exact Nat.le_of_ble_eq_true rfl) (t_La_readFrom (d + 1) (sL40 H.wI) (sK48 H.wI) (by omega) ne48) (fun r33 h33 q33 => ?_)
  obtain ⟨rfl, w1, w2⟩ := q33
  refine je_ret (pc := 36) d7004_36 rfl ?_
  refine ⟨rfl, ⟨w1.1, fun b hb => ?_⟩, fun j hj => ?_, ?_, fun L hL => w2 L ?_⟩
  · rw [w1.2 b (fun z => hb (Or.inr z)), wI_ne _ _ _ (fun z => hb (Or.inl z))]
  · rw [w1.2 26 (by omega), wI_at, jx_up_ne _ _ hj]
  · rw [w1.2 26 (by omega), wI_at, jx_up_self]
  · rw [wI_ne _ _ _ (show 48 ≠ 26 by decide)]; exact hL
theorem remP.cp {h h1 : jx_H} (q : remP h h1) {L : ML} (hL : rL h.2.1 40 L) : rL h1.2.1 40 L := hL.of (fun b h1 h2 => q.1.2 b (by omega))
