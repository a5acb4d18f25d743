/-! a strip told: the model reads it -/
/-! a fault is positive -/
def fpS (s : Int32 × Nat) : Prop := s.1 = 0 ∨ 0 < s.1
theorem fp_f {b c q : Nat} (hb : b ≤ 400) (hc : c ≤ 4) : fpS (fltI b c, q) := by
  refine Or.inr ?_
  show (0 : Int32) < fltI b c
  unfold fltI
  exact nI_lt (a := 0) (by omega) (by omega)
theorem am_fp {T : Nat → Int32} {N : Nat} {lo hi : Int32} {s : Int32 × Nat} (h : fpS s) (hs : s.2 ≤ N) (hN : N ≤ 400) : fpS (amS T N lo hi s) := by
  by_cases f : ¬ s.1 = 0
  · rw [am_f f]; exact h
  · have f := Decidable.of_not_not f
    cases hk : nbK T N (skB T N s.2) lo hi with
    | some c => rw [am_s f hk]; exact fp_f (Nat.le_trans (sk_N hs) hN) (nbK_c hk)
    | none => rw [am_n f hk]; exact Or.inl rfl
theorem pt_fp {T : Nat → Int32} {N k : Nat} {s : Int32 × Nat} {S : MS} (h : fpS s) (hs : s.2 ≤ N) (hN : N ≤ 400) : fpS (ptA T N k s S) := by
  unfold ptA p0A p1A p2A p4A p5A p1c p2b p1b p2a p1a
  split
  · exact am_fp (am_fp h hs hN) (am_N hs hN) hN
  · exact am_fp (am_fp (am_fp (am_fp h hs hN) (am_N hs hN) hN) (am_N (am_N hs hN) hN) hN) (am_N (am_N (am_N hs hN) hN) hN) hN
  · exact am_fp (am_fp (am_fp h hs hN) (am_N hs hN) hN) (am_N (am_N hs hN) hN) hN
  · exact am_fp h hs hN
  · exact am_fp (am_fp (am_fp h hs hN) (am_N hs hN) hN) (am_N (am_N hs hN) hN) hN
  · exact am_fp (am_fp h hs hN) (am_N hs hN) hN
theorem go_fp {T : Nat → Int32} {N : Nat} {s : Int32 × Nat} (h : fpS s) (hs : s.2 ≤ N) (hN : N ≤ 400) : fpS (goS T N s).2 := by
  have hb := sk_N (T := T) hs
  unfold goS
  split
  · exact h
  · split
    · exact h
    · split
      · exact Or.inl rfl
      · exact fp_f (by omega) (by decide)
theorem cl_fp {T : Nat → Int32} {N n q : Nat} {S : MS} (hq : q ≤ N) (hN : N ≤ 400) : fpS (clS T N n q S).1 := by
  have hb := sk_N (T := T) hq
  unfold clS
  split
  · exact fp_f (by omega) (by decide)
  · split
    · exact fp_f (by omega) (by decide)
    · exact pt_fp (Or.inl rfl) (tk_N hb).2 hN
theorem it_fp {T : Nat → Int32} {N : Nat} {S : MS} (hS : wfS S) (h0 : S.1.1 = 0) (hN : N ≤ 400) : ∀ n, n ≤ 41 → fpS (itS T N S n).2.1
  | 0, _ => Or.inl rfl
  | n + 1, hn => by
    have w := it_wf (T := T) hS h0 hN n (by omega)
    by_cases c : (itS T N S n).1 = true
    · obtain ⟨i1, i2, i3⟩ := w.2.2.1 c
      rw [itS, if_pos c]
      exact go_fp (cl_fp w.2.1 hN) (cl_wf (T := T) i2 i3 hN).1.2.1 hN
    · rw [itS, if_neg c]
      exact it_fp hS h0 hN n (by omega)
set_option maxHeartbeats 2000000 in
theorem t_Mo_starts (d : Nat) {bc bs : Nat} {h : jx_H} (H : jx_St h) : jx_Tr (d + 1) bc bs 12006 [.ref 253] h (fun r h' => r = none ∧ h' = jx_wI (jx_wI (jx_wI (jx_wI (jx_wI h 253 28 0) 253 29 0) 253 32 0) 253 33 0) 253 34 0) := by
  refine jx_tr jM_Mo_starts rfl rfl (lv := [some (.ref 253)]) rfl ?_
  refine je_aload0 (pc := 0) d12006_0 rfl ?_
  refine je_iconst (pc := 1) (v := 0) d12006_1 rfl ?_
  refine ju_puti (pc := 2) d12006_2 jF_12_217 rfl (sK253 H) ?_
  refine je_aload0 (pc := 5) d12006_5 rfl ?_
  refine je_iconst (pc := 6) (v := 0) d12006_6 rfl ?_
  refine ju_puti (pc := 7) d12006_7 jF_12_214 rfl (sK253 H.wI) ?_
  refine je_aload0 (pc := 10) d12006_10 rfl ?_
  refine je_iconst (pc := 11) (v := 0) d12006_11 rfl ?_
  refine ju_puti (pc := 12) d12006_12 jF_12_247 rfl (sK253 H.wI.wI) ?_
  refine je_aload0 (pc := 15) d12006_15 rfl ?_
  refine je_iconst (pc := 16) (v := 0) d12006_16 rfl ?_
  refine ju_puti (pc := 17) d12006_17 jF_12_288 rfl (sK253 H.wI.wI.wI) ?_
  refine je_aload0 (pc := 20) d12006_20 rfl ?_
  refine je_iconst (pc := 21) (v := 0) d12006_21 rfl ?_
  refine ju_puti (pc := 22) d12006_22 jF_12_250 rfl (sK253 H.wI.wI.wI.wI) ?_
  refine je_ret (pc := 25) d12006_25 rfl ?_
  exact ⟨rfl, rfl⟩
set_option maxHeartbeats 8000000 in
theorem t_Mo_readsAll (d : Nat) {bc bs : Nat} {h : jx_H} {N : Nat} (H : jx_St h) (ht : h.2.1 253 27 = nI N) (hN : N ≤ 400) (hB : ∀ j, j < N → (h.2.1 280 j).toInt8.toInt32 = h.2.1 280 j) : jx_Tr (d + 9) bc bs 12005 [.ref 253] h (fun r h' => r = none ∧ fC mnA h h' ∧ (∀ j, j ≠ 27 → j ≠ 28 → j ≠ 29 → j ≠ 32 → j ≠ 33 → j ≠ 34 → h'.2.1 253 j = h.2.1 253 j) ∧ h'.2.1 253 27 = 0 ∧ h'.2.1 253 29 = (itS (mT h) N S00 41).2.1.1 ∧ ((itS (mT h) N S00 41).2.1.1 = 0 → mSn h'.2.1 (itS (mT h) N S00 41).2.2)) := by
  refine jx_tr jM_Mo_readsAll rfl rfl (lv := [some (.ref 253), none, none]) rfl ?_
  refine je_aload0 (pc := 0) d12005_0 rfl ?_
  refine ju_callv (pc := 1) (as := []) d12005_1 jL_12_345 jM_Mo_starts rfl (by decide) (sK253 H) rfl (by exact Nat.le_of_ble_eq_true rfl) (t_Mo_starts (d + 7) H) (fun r1 h1 q1 => ?_)
  obtain ⟨rfl, e1⟩ := q1
  obtain rfl := e1.symm
  refine je_iconst (pc := 4) (v := 0) d12005_4 rfl ?_
  refine ju_istore1 (pc := 5) (lv' := [some _, some _, none]) d12005_5 rfl rfl ?_
  have j0 : fC mnA h (jx_wI (jx_wI (jx_wI (jx_wI (jx_wI h 253 28 0) 253 29 0) 253 32 0) 253 33 0) 253 34 0) ∧ (∀ j, j ≠ 28 → j ≠ 29 → j ≠ 32 → j ≠ 33 → j ≠ 34 → (jx_wI (jx_wI (jx_wI (jx_wI (jx_wI h 253 28 0) 253 29 0) 253 32 0) 253 33 0) 253 34 0).2.1 253 j = h.2.1 253 j) ∧ mtS (jx_wI (jx_wI (jx_wI (jx_wI (jx_wI h 253 28 0) 253 29 0) 253 32 0) 253 33 0) 253 34 0) N (0, 0) := ⟨((((fC.rf.wI (Or.inl rfl)).wI (Or.inl rfl)).wI (Or.inl rfl)).wI (Or.inl rfl)).wI (Or.inl rfl), (fun j a1 a2 a3 a4 a5 => by rw [wI_at, jx_up_ne _ _ a5, wI_at, jx_up_ne _ _ a4, wI_at, jx_up_ne _ _ a3, wI_at, jx_up_ne _ _ a2, wI_at, jx_up_ne _ _ a1]), ⟨by rw [wI_at, jx_up_ne _ _ (by decide), wI_at, jx_up_ne _ _ (by decide), wI_at, jx_up_ne _ _ (by decide), wI_at, jx_up_ne _ _ (by decide), wI_at, jx_up_ne _ _ (by decide)]; exact ht, by rw [wI_at, jx_up_ne _ _ (by decide), wI_at, jx_up_ne _ _ (by decide), wI_at, jx_up_ne _ _ (by decide), wI_at, jx_up_self], 0, Nat.zero_le N, by rw [wI_at, jx_up_ne _ _ (by decide), wI_at, jx_up_ne _ _ (by decide), wI_at, jx_up_ne _ _ (by decide), wI_at, jx_up_ne _ _ (by decide), wI_at, jx_up_self]; rfl, fun _ => rfl⟩⟩
  refine je_loop (σ := Unit) (5) (fun k xx => [some (.ref 253), some (.int (nI k)), none]) (fun k _ h' => (fC mnA h h' ∧ (∀ j, j ≠ 28 → j ≠ 29 → j ≠ 32 → j ≠ 33 → j ≠ 34 → h'.2.1 253 j = h.2.1 253 j) ∧ mtS h' N (0, 0)) ∧ ∀ j, j < k → h'.2.1 270 j = 0) (fun k xx h' hk e kk => ?_) (fun xx h' e => ?_) (0) () _ (by omega) ⟨j0, fun j hj => absurd hj (Nat.not_lt_zero j)⟩
  · obtain ⟨⟨x1, x2, x3⟩, x4⟩ := e
    have HJ := x1.St H
    refine je_iload1 (pc := 6) d12005_6 rfl ?_
    refine je_iconst (pc := 7) (v := 5) d12005_7 rfl ?_
    refine jn_icge (pc := 8) (a := (k)) (b := 5) 24 d12005_8 (by decide) (by omega) (by omega) (fun c8 => by exfalso; omega) (fun c8 => ?_)
    refine je_aload0 (pc := 11) d12005_11 rfl ?_
    refine ju_getr (pc := 12) (b := 270) d12005_12 jF_12_58 rfl (sK253 HJ) (sR253_17 HJ) ?_
    refine je_iload1 (pc := 15) d12005_15 rfl ?_
    refine je_iconst (pc := 16) (v := 0) d12005_16 rfl ?_
    refine ju_iast (pc := 17) (jn := (k)) d12005_17 (sK270 HJ) (vp_in_nI (by omega) (by decide)) (nI_clamp (by omega)) ?_
    refine ju_incN (pc := 18) (v := nI ((k) + 1)) (lv' := [some _, some _, none]) d12005_18 rfl (nI_1 (k)) rfl ?_
    refine je_goto (pc := 21) 6 d12005_21 (by decide) ?_
    refine kk () _ ⟨⟨x1.wI (Or.inr (by decide)), fun j a1 a2 a3 a4 a5 => by rw [wI_ne _ _ _ (by decide)]; exact x2 j a1 a2 a3 a4 a5, x3.wI (by decide)⟩, fun j hj => by
      rw [wI_at]
      by_cases z : j = k
      · rw [z, jx_up_self]
      · rw [jx_up_ne _ _ z]; exact x4 j (by omega)⟩
  · obtain ⟨⟨x1, x2, x3⟩, x4⟩ := e
    have HJ := x1.St H
    refine je_iload1 (pc := 6) d12005_6 rfl ?_
    refine je_iconst (pc := 7) (v := 5) d12005_7 rfl ?_
    refine jn_icge (pc := 8) (a := ((5))) (b := 5) 24 d12005_8 (by decide) (by omega) (by omega) (fun c8 => ?_) (fun c8 => by exfalso; omega)
    refine je_iconst (pc := 24) (v := 0) d12005_24 rfl ?_
    refine ju_istore1 (pc := 25) (lv' := [some _, some _, none]) d12005_25 rfl rfl ?_
    have w1 := And.intro (And.intro x1 (And.intro x2 x3)) x4
    refine je_loop (σ := Unit) (10) (fun k xx => [some (.ref 253), some (.int (nI k)), none]) (fun k _ h' => (fC mnA h h' ∧ (∀ j, j ≠ 28 → j ≠ 29 → j ≠ 32 → j ≠ 33 → j ≠ 34 → h'.2.1 253 j = h.2.1 253 j) ∧ mtS h' N (0, 0)) ∧ (∀ j, j < 5 → h'.2.1 270 j = 0) ∧ ∀ j, j < k → h'.2.1 271 j = 0 ∧ h'.2.1 272 j = 10 ∧ h'.2.1 273 j = 0) (fun k xx h' hk e kk => ?_) (fun xx h' e => ?_) (0) () _ (by omega) ⟨w1.1, w1.2, fun j hj => absurd hj (Nat.not_lt_zero j)⟩
    · obtain ⟨⟨x1, x2, x3⟩, x4, x5⟩ := e
      have HJ := x1.St H
      refine je_iload1 (pc := 26) d12005_26 rfl ?_
      refine je_bipush (pc := 27) (v := 10) d12005_27 rfl ?_
      refine jn_icge (pc := 29) (a := (k)) (b := 10) 60 d12005_29 (by decide) (by omega) (by omega) (fun c29 => by exfalso; omega) (fun c29 => ?_)
      refine je_aload0 (pc := 32) d12005_32 rfl ?_
      refine ju_getr (pc := 33) (b := 271) d12005_33 jF_12_61 rfl (sK253 HJ) (sR253_18 HJ) ?_
      refine je_iload1 (pc := 36) d12005_36 rfl ?_
      refine je_iconst (pc := 37) (v := 0) d12005_37 rfl ?_
      refine ju_iast (pc := 38) (jn := (k)) d12005_38 (sK271 HJ) (vp_in_nI (by omega) (by decide)) (nI_clamp (by omega)) ?_
      refine je_aload0 (pc := 39) d12005_39 rfl ?_
      refine ju_getr (pc := 40) (b := 272) d12005_40 jF_12_64 rfl (sK253 HJ.wI) (sR253_19 HJ.wI) ?_
      refine je_iload1 (pc := 43) d12005_43 rfl ?_
      refine je_bipush (pc := 44) (v := 10) d12005_44 rfl ?_
      refine ju_iast (pc := 46) (jn := (k)) d12005_46 (sK272 HJ.wI) (vp_in_nI (by omega) (by decide)) (nI_clamp (by omega)) ?_
      refine je_aload0 (pc := 47) d12005_47 rfl ?_
      refine ju_getr (pc := 48) (b := 273) d12005_48 jF_12_67 rfl (sK253 HJ.wI.wI) (sR253_20 HJ.wI.wI) ?_
      refine je_iload1 (pc := 51) d12005_51 rfl ?_
      refine je_iconst (pc := 52) (v := 0) d12005_52 rfl ?_
      refine ju_iast (pc := 53) (jn := (k)) d12005_53 (sK273 HJ.wI.wI) (vp_in_nI (by omega) (by decide)) (nI_clamp (by omega)) ?_
      refine ju_incN (pc := 54) (v := nI ((k) + 1)) (lv' := [some _, some _, none]) d12005_54 rfl (nI_1 (k)) rfl ?_
      refine je_goto (pc := 57) 26 d12005_57 (by decide) ?_
      refine kk () _ ⟨⟨((x1.wI (Or.inr (by decide))).wI (Or.inr (by decide))).wI (Or.inr (by decide)), fun j a1 a2 a3 a4 a5 => by rw [wI_ne _ _ _ (by decide), wI_ne _ _ _ (by decide), wI_ne _ _ _ (by decide)]; exact x2 j a1 a2 a3 a4 a5, ((x3.wI (by decide)).wI (by decide)).wI (by decide)⟩, fun j hj => by rw [wI_ne _ _ _ (by decide), wI_ne _ _ _ (by decide), wI_ne _ _ _ (by decide)]; exact x4 j hj, fun j hj => ?_⟩
      rw [wI_ne _ _ _ (show 271 ≠ 273 by decide), wI_ne _ _ _ (show 271 ≠ 272 by decide), wI_at, wI_ne _ _ _ (show 272 ≠ 273 by decide), wI_at, wI_ne _ _ _ (show 272 ≠ 271 by decide), wI_at, wI_ne _ _ _ (show 273 ≠ 272 by decide), wI_ne _ _ _ (show 273 ≠ 271 by decide)]
      by_cases z : j = k
      · rw [z, jx_up_self, jx_up_self, jx_up_self]; exact ⟨rfl, rfl, rfl⟩
      · rw [jx_up_ne _ _ z, jx_up_ne _ _ z, jx_up_ne _ _ z]; exact x5 j (by omega)
    · obtain ⟨⟨x1, x2, x3⟩, x4, x5⟩ := e
      have HJ := x1.St H
      refine je_iload1 (pc := 26) d12005_26 rfl ?_
      refine je_bipush (pc := 27) (v := 10) d12005_27 rfl ?_
      refine jn_icge (pc := 29) (a := ((10))) (b := 10) 60 d12005_29 (by decide) (by omega) (by omega) (fun c29 => ?_) (fun c29 => by exfalso; omega)
      refine je_iconst (pc := 60) (v := 0) d12005_60 rfl ?_
      refine ju_istore1 (pc := 61) (lv' := [some _, some _, none]) d12005_61 rfl rfl ?_
      have w1 := And.intro (And.intro x1 (And.intro x2 x3)) (And.intro x4 x5)
      refine je_loop (σ := Unit) (100) (fun k xx => [some (.ref 253), some (.int (nI k)), none]) (fun k _ h' => (fC mnA h h' ∧ (∀ j, j ≠ 28 → j ≠ 29 → j ≠ 32 → j ≠ 33 → j ≠ 34 → h'.2.1 253 j = h.2.1 253 j) ∧ mtS h' N (0, 0)) ∧ (∀ j, j < 5 → h'.2.1 270 j = 0) ∧ (∀ j, j < 10 → h'.2.1 271 j = 0 ∧ h'.2.1 272 j = 10 ∧ h'.2.1 273 j = 0) ∧ ∀ j, j < k → h'.2.1 274 j = 0) (fun k xx h' hk e kk => ?_) (fun xx h' e => ?_) (0) () _ (by omega) ⟨w1.1, w1.2.1, w1.2.2, fun j hj => absurd hj (Nat.not_lt_zero j)⟩
      · obtain ⟨⟨x1, x2, x3⟩, x4, x5, x6⟩ := e
        have HJ := x1.St H
        refine je_iload1 (pc := 62) d12005_62 rfl ?_
        refine je_bipush (pc := 63) (v := 100) d12005_63 rfl ?_
        refine jn_icge (pc := 65) (a := (k)) (b := 100) 81 d12005_65 (by decide) (by omega) (by omega) (fun c65 => by exfalso; omega) (fun c65 => ?_)
        refine je_aload0 (pc := 68) d12005_68 rfl ?_
        refine ju_getr (pc := 69) (b := 274) d12005_69 jF_12_70 rfl (sK253 HJ) (sR253_21 HJ) ?_
        refine je_iload1 (pc := 72) d12005_72 rfl ?_
        refine je_iconst (pc := 73) (v := 0) d12005_73 rfl ?_
        refine ju_iast (pc := 74) (jn := (k)) d12005_74 (sK274 HJ) (vp_in_nI (by omega) (by decide)) (nI_clamp (by omega)) ?_
        refine ju_incN (pc := 75) (v := nI ((k) + 1)) (lv' := [some _, some _, none]) d12005_75 rfl (nI_1 (k)) rfl ?_
        refine je_goto (pc := 78) 62 d12005_78 (by decide) ?_
        refine kk () _ ⟨⟨x1.wI (Or.inr (by decide)), fun j a1 a2 a3 a4 a5 => by rw [wI_ne _ _ _ (by decide)]; exact x2 j a1 a2 a3 a4 a5, x3.wI (by decide)⟩, fun j hj => by rw [wI_ne _ _ _ (by decide)]; exact x4 j hj, fun j hj => by rw [wI_ne _ _ _ (by decide), wI_ne _ _ _ (by decide), wI_ne _ _ _ (by decide)]; exact x5 j hj, fun j hj => by
          rw [wI_at]
          by_cases z : j = k
          · rw [z, jx_up_self]
          · rw [jx_up_ne _ _ z]; exact x6 j (by omega)⟩
      · obtain ⟨⟨x1, x2, x3⟩, x4, x5, x6⟩ := e
        have HJ := x1.St H
        refine je_iload1 (pc := 62) d12005_62 rfl ?_
        refine je_bipush (pc := 63) (v := 100) d12005_63 rfl ?_
        refine jn_icge (pc := 65) (a := ((100))) (b := 100) 81 d12005_65 (by decide) (by omega) (by omega) (fun c65 => ?_) (fun c65 => by exfalso; omega)
        refine je_iconst (pc := 81) (v := 0) d12005_81 rfl ?_
        refine ju_istore1 (pc := 82) (lv' := [some _, some _, none]) d12005_82 rfl rfl ?_
        refine je_iconst (pc := 83) (v := 1) d12005_83 rfl ?_
        refine ju_istore2 (pc := 84) (lv' := [some _, some _, some _]) d12005_84 rfl rfl ?_
        have w1 := And.intro (And.intro x1 (And.intro x2 x3)) (And.intro x4 (And.intro x5 x6))
        have W1 : mSn h'.2.1 S00 := ⟨⟨x4 0 (by decide), x4 1 (by decide), x4 2 (by decide), x4 3 (by decide), x4 4 (by decide)⟩, x5, x6, fun v hv => absurd hv (Nat.not_lt_zero v), fun v hv => absurd hv (Nat.not_lt_zero v)⟩
        refine je_loop (σ := Unit) (41) (fun k xx => [some (.ref 253), some (.int (nI k)), some (.int (b2 ((itS (mT h) N S00 k).1 = true)))]) (fun k _ h' => fC mnA h h' ∧ (∀ j, j ≠ 28 → j ≠ 29 → j ≠ 32 → j ≠ 33 → j ≠ 34 → h'.2.1 253 j = h.2.1 253 j) ∧ ((itS (mT h) N S00 k).1 = true → mtS h' N (itS (mT h) N S00 k).2.1 ∧ mSn h'.2.1 (itS (mT h) N S00 k).2.2) ∧ h'.2.1 253 29 = (itS (mT h) N S00 k).2.1.1 ∧ ((itS (mT h) N S00 k).2.1.1 = 0 → mSn h'.2.1 (itS (mT h) N S00 k).2.2)) (fun k xx h' hk e kk => ?_) (fun xx h' e => ?_) (0) () _ (by omega) ⟨w1.1.1, w1.1.2.1, fun _ => ⟨w1.1.2.2, W1⟩, w1.1.2.2.2.1, fun _ => W1⟩
        · obtain ⟨x1, x2, x3, x4, x5⟩ := e
          have HJ := x1.St H
          refine je_iload2 (pc := 85) d12005_85 rfl ?_
          refine jb_ifeq (pc := 86) 105 d12005_86 (by decide) (fun c86 => ?_) (fun c86 => ?_)
          · refine je_aload0 (pc := 105) d12005_105 rfl ?_
            refine je_iconst (pc := 106) (v := 0) d12005_106 rfl ?_
            refine ju_puti (pc := 107) d12005_107 jF_12_185 rfl (sK253 HJ) ?_
            refine je_ret (pc := 110) d12005_110 rfl ?_
            have hx := it_e (T := mT h) (N := N) (S := S00) (n := k) (by omega) c86
            exact ⟨rfl, x1.wI (Or.inl rfl), (fun j a0 a1 a2 a3 a4 a5 => by rw [wI_at, jx_up_ne _ _ a0]; exact x2 j a1 a2 a3 a4 a5), by rw [wI_at, jx_up_self], by rw [wI_at, jx_up_ne _ _ (by decide), hx]; exact x4, fun z => by rw [hx] at z ⊢; exact (x5 z).of (fun b b1 b2 => wI_ne _ _ _ (by omega))⟩
          · obtain ⟨i1, i2, i3⟩ := (it_wf (T := mT h) (N := N) wf_00 rfl hN k (by omega)).2.2.1 c86
            have wk := i2.1
            obtain ⟨m1, m0⟩ := x3 c86
            have X0 : mtS h' N (0, (itS (mT h) N S00 k).2.1.2) := by
              have e0 : (itS (mT h) N S00 k).2.1 = (0, (itS (mT h) N S00 k).2.1.2) := Prod.ext i1 rfl
              rw [← e0]; exact m1
            have hB1 : ∀ j, j < N → (h'.2.1 280 j).toInt8.toInt32 = h'.2.1 280 j := fun j hj => by rw [x1.2 280 (fun z => by unfold mnA at z; omega)]; exact hB j hj
            have W0 : (itS (mT h) N S00 k).2.2.1.1 ≤ 10 ∧ (itS (mT h) N S00 k).2.2.1.2.1 ≤ 8 ∧ (itS (mT h) N S00 k).2.2.1.2.2.1 ≤ 8 := ⟨by rcases wk.1 with z | z <;> omega, wk.2.1, wk.2.2.1⟩
            have eI : itS (mT h) N S00 (k + 1) = ((goS (mT h) N (clS (mT h) N k (itS (mT h) N S00 k).2.1.2 (itS (mT h) N S00 k).2.2).1).1, (goS (mT h) N (clS (mT h) N k (itS (mT h) N S00 k).2.1.2 (itS (mT h) N S00 k).2.2).1).2, (clS (mT h) N k (itS (mT h) N S00 k).2.1.2 (itS (mT h) N S00 k).2.2).2) := by rw [itS, if_pos c86]
            refine je_aload0 (pc := 89) d12005_89 rfl ?_
            refine je_iload1 (pc := 90) d12005_90 rfl ?_
            refine ju_callv (pc := 91) (as := [_]) d12005_91 jL_12_348 jM_Mo_stripClause rfl (by decide) (sK253 HJ) rfl (by exact Nat.le_of_ble_eq_true rfl) (t_Mo_stripClause (d + 0) (N := N) (n := k) (q := (itS (mT h) N S00 k).2.1.2) (S := (itS (mT h) N S00 k).2.2) HJ X0 i3 hN hB1 m0 W0) (fun r91 h91 q91 => ?_)
            obtain ⟨rfl, y1, y2, y3, y4⟩ := q91
            rw [mT_e x1] at y3 y4
            have H2 := y1.St HJ
            refine ju_incN (pc := 94) (v := nI ((k) + 1)) (lv' := [some _, some _, some _]) d12005_94 rfl (nI_1 (k)) rfl ?_
            refine je_aload0 (pc := 97) d12005_97 rfl ?_
            refine ju_callv (pc := 98) (as := []) d12005_98 jL_12_351 jM_Mo_goesOn rfl (by decide) (sK253 H2) rfl (by exact Nat.le_of_ble_eq_true rfl) (t_Mo_goesOn (d + 5) (N := N) (s := (clS (mT h) N k (itS (mT h) N S00 k).2.1.2 (itS (mT h) N S00 k).2.2).1) H2 y3 hN) (fun r98 h98 q98 => ?_)
            obtain ⟨rfl, z1, z2, z3, z4⟩ := q98
            rw [mT_e (x1.tr y1)] at z3 z4 ⊢
            refine ju_eqi (v := b2 ((itS (mT h) N S00 (k + 1)).1 = true)) (by rw [eI]) ?_
            refine ju_istore2 (pc := 101) (lv' := [some _, some _, some _]) d12005_101 rfl rfl ?_
            refine je_goto (pc := 102) 85 d12005_102 (by decide) ?_
            refine kk () _ ⟨(x1.tr y1).tr z1.mn, fun j a1 a2 a3 a4 a5 => (z2 j a1 a2).trans ((y2 j a1 a2).trans (x2 j a1 a2 a3 a4 a5)), fun z => ?_, ?_, fun z => ?_⟩
            · rw [eI] at z ⊢
              have k2 := (go_N (T := mT h) (cl_wf (T := mT h) i2 i3 hN).1.2.1 hN).2.1 z
              exact ⟨z4 z, (y4 k2.1).of (fun b b1 b2 => z1.2 b (by omega))⟩
            · rw [eI]; exact z3
            · rw [eI] at z ⊢
              exact (y4 ((go_N (T := mT h) (cl_wf (T := mT h) i2 i3 hN).1.2.1 hN).2.2 z)).of (fun b b1 b2 => z1.2 b (by omega))
        · obtain ⟨x1, x2, x3, x4, x5⟩ := e
          have HJ := x1.St H
          refine je_iload2 (pc := 85) d12005_85 rfl ?_
          refine jb_ifeq (pc := 86) 105 d12005_86 (by decide) (fun c86 => ?_) (fun c86 => absurd c86 (it_41 wf_00 rfl hN))
          refine je_aload0 (pc := 105) d12005_105 rfl ?_
          refine je_iconst (pc := 106) (v := 0) d12005_106 rfl ?_
          refine ju_puti (pc := 107) d12005_107 jF_12_185 rfl (sK253 HJ) ?_
          refine je_ret (pc := 110) d12005_110 rfl ?_
          have hx := it_e (T := mT h) (N := N) (S := S00) (n := 41) (by omega) (it_41 wf_00 rfl hN)
          exact ⟨rfl, x1.wI (Or.inl rfl), (fun j a0 a1 a2 a3 a4 a5 => by rw [wI_at, jx_up_ne _ _ a0]; exact x2 j a1 a2 a3 a4 a5), by rw [wI_at, jx_up_self], by rw [wI_at, jx_up_ne _ _ (by decide), hx]; exact x4, fun z => by rw [hx] at z ⊢; exact (x5 z).of (fun b b1 b2 => wI_ne _ _ _ (by omega))⟩
