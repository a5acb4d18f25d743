/-! a strip told: the class reads it -/
theorem jx_Sp.w4 {h : jx_H} {s a : Nat} (H : jx_Sp h s) (hs : 5 ≤ s) : jx_Sp (jx_wR h 4 1 (some a)) s := H.rf rfl (fun b h1 h2 => wR_ne _ _ _ (by omega))
set_option maxHeartbeats 4000000 in
theorem t_Sr_read (d : Nat) {h : jx_H} {N a : Nat} (H : jx_St h) (hs : h.2.1 2 1 = nI N) (hN : N ≤ 400) (hT : bytT (h.2.1 3) N) (hl : h.1.length = a) (ha : 304 ≤ a) (ha2 : a < 700000) : jx_Tr (d + 8) 13 206 2001 [.ref 4] h (fun r h' => r = some (.ref a) ∧ fC (stA a) (jx_wR (nwS h a) 4 1 (some a)) h' ∧ txS h' N (itS (h.2.1 3) N S00 41).2.1 ∧ rS h'.2.1 a (itS (h.2.1 3) N S00 41).2.2) := by
  refine jx_tr jM_Sr_read rfl rfl (lv := [some (.ref 4), none, none, none]) rfl ?_
  refine ju_bud (bc' := 12 + 1) (bs' := 194 + 12) rfl rfl ?_
  refine ju_new (pc := 0) (n := a) (N := 12) d2001_0 jC_2_9 rfl hl (by omega) ?_
  refine je_dup (pc := 3) d2001_3 rfl ?_
  refine ju_bud (bc' := 12 + 0) (bs' := 194 + 0) rfl rfl ?_
  refine je_calliN (pc := 4) (as := []) (mc := 12) (ms := 194) d2001_4 jL_2_11 jM_St_init rfl rfl (by exact Nat.le_of_ble_eq_true rfl) (t_St_init (d + 4) a (jk_nN hl) (jk_nl hl) (by omega)) (fun r4 h4 q4 => ?_)
  obtain ⟨rfl, e4⟩ := q4
  obtain rfl : h4 = nwS h a := e4
  have SP0 := nw_Sp hl
  have H0 := nw_St (a := a) H ha
  have H1 : jx_St (jx_wR (nwS h a) 4 1 (some a)) := H0.wR rfl
  have SP1 : jx_Sp (jx_wR (nwS h a) 4 1 (some a)) a := SP0.w4 (by omega)
  have RA1 : (jx_wR (nwS h a) 4 1 (some a)).2.2.2 4 1 = some a := by rw [wR_at, jx_up_self]
  have eT1 : (jx_wR (nwS h a) 4 1 (some a)).2.1 3 = h.2.1 3 := nw_I (h := h) (a := a) (b := 3) (Or.inl (by omega))
  have hs1 : (jx_wR (nwS h a) 4 1 (some a)).2.1 2 1 = nI N := by
    have e : (jx_wR (nwS h a) 4 1 (some a)).2.1 2 = h.2.1 2 := nw_I (h := h) (a := a) (b := 2) (Or.inl (by omega))
    rw [e]; exact hs
  refine ju_astore1 (pc := 7) (lv' := [some _, some _, none, none]) d2001_7 rfl rfl ?_
  refine je_aload0 (pc := 8) d2001_8 rfl ?_
  refine je_aload1 (pc := 9) d2001_9 rfl ?_
  refine ju_putr (pc := 10) d2001_10 jF_2_12 rfl rfl (sK4 H0) ?_
  refine je_aload0 (pc := 13) d2001_13 rfl ?_
  refine ju_getr (pc := 14) (b := 2) d2001_14 jF_2_18 rfl (sK4 H1) (sR4_0 H1) ?_
  refine ju_callv (pc := 17) (as := []) d2001_17 jL_2_22 jM_Tx_start rfl (by decide) (sK2 H1) rfl (by exact Nat.le_of_ble_eq_true rfl) (t_Tx_start (d + 3) (N := N) H1 hs1 hN) (fun r17 h17 q17 => ?_)
  obtain ⟨rfl, f2, g2, A2⟩ := q17
  refine je_iconst (pc := 20) (v := 0) d2001_20 rfl ?_
  refine ju_istore2 (pc := 21) (lv' := [some _, some _, some _, none]) d2001_21 rfl rfl ?_
  refine je_loop (σ := Unit) (10) (fun k xx => [some (.ref 4), some (.ref a), some (.int (nI k)), none]) (fun k _ h' => fC (fun b => b = a + 8 + 2) h17 h' ∧ ∀ j, j < k → h'.2.1 (a + 8 + 2) j = 10) (fun k xx h' hk e kk => ?_) (fun xx h' e => ?_) (0) () h17 (by omega) ⟨fC.rf, fun j hj => absurd hj (Nat.not_lt_zero j)⟩
  · obtain ⟨x1, x2⟩ := e
    have HJ := x1.St (f2.St H1)
    have SPJ := x1.Sp (f2.Sp SP1)
    refine je_iload2 (pc := 22) d2001_22 rfl ?_
    refine je_bipush (pc := 23) (v := 10) d2001_23 rfl ?_
    refine jn_icge (pc := 25) (a := (k)) (b := 10) 45 d2001_25 (by decide) (by omega) (by omega) (fun c25 => by exfalso; omega) (fun c25 => ?_)
    refine je_aload1 (pc := 28) d2001_28 rfl ?_
    refine ju_getr (pc := 29) (b := (a + 8)) d2001_29 jF_2_27 rfl SPJ.1.1 SPJ.1.2.2.2.2.2.2.2.2.2 ?_
    refine ju_getr (pc := 32) (b := ((a + 8) + 2)) d2001_32 jF_2_30 rfl SPJ.1.2.2.2.2.2.2.2.2.1 SPJ.2.2.2.1.2 ?_
    refine je_iload2 (pc := 35) d2001_35 rfl ?_
    refine je_bipush (pc := 36) (v := 10) d2001_36 rfl ?_
    refine ju_iast (pc := 38) (jn := (k)) d2001_38 SPJ.2.2.2.1.1 (vp_in_nI (by omega) (by decide)) (nI_clamp (by omega)) ?_
    refine ju_incN (pc := 39) (v := nI ((k) + 1)) (lv' := [some _, some _, some _, none]) d2001_39 rfl (nI_1 (k)) rfl ?_
    refine je_goto (pc := 42) 22 d2001_42 (by decide) ?_
    refine kk () _ ⟨x1.wI rfl, fun j hj => ?_⟩
    rw [wI_at]
    by_cases z : j = k
    · rw [z, jx_up_self]
    · rw [jx_up_ne _ _ z]; exact x2 j (by omega)
  · obtain ⟨x1, x2⟩ := e
    have HJ := x1.St (f2.St H1)
    have SPJ := x1.Sp (f2.Sp SP1)
    refine je_iload2 (pc := 22) d2001_22 rfl ?_
    refine je_bipush (pc := 23) (v := 10) d2001_23 rfl ?_
    refine jn_icge (pc := 25) (a := ((10))) (b := 10) 45 d2001_25 (by decide) (by omega) (by omega) (fun c25 => ?_) (fun c25 => by exfalso; omega)
    refine je_iconst (pc := 45) (v := 1) d2001_45 rfl ?_
    refine ju_istore2 (pc := 46) (lv' := [some _, some _, some _, none]) d2001_46 rfl rfl ?_
    refine je_iconst (pc := 47) (v := 0) d2001_47 rfl ?_
    refine ju_istore3 (pc := 48) (lv' := [some _, some _, some _, some _]) d2001_48 rfl rfl ?_
    have Z : ∀ b, a ≤ b → b ≤ a + 12 → b ≠ a + 8 + 2 → h'.2.1 b = fun _ => 0 := fun b b1 b2 b3 => (x1.2 b b3).trans ((f2.2 b (by omega)).trans (nw_Z b1 b2))
    have j0 : fC (stA a) (jx_wR (nwS h a) 4 1 (some a)) h' ∧ txS h' N (itS (h.2.1 3) N S00 0).2.1 ∧ rS h'.2.1 a (itS (h.2.1 3) N S00 0).2.2 := by
      refine ⟨f2.sa.tr (x1.mo (fun b e => Or.inr (by omega))), ?_, ⟨⟨congrFun (Z (a) (by omega) (by omega) (by omega)) 0, congrFun (Z (a) (by omega) (by omega) (by omega)) 1, congrFun (Z (a) (by omega) (by omega) (by omega)) 2, congrFun (Z (a) (by omega) (by omega) (by omega)) 3⟩, fun j _ => congrFun (Z (a + 1) (by omega) (by omega) (by omega)) j, fun v hv => absurd hv (Nat.not_lt_zero v), fun m _ => congrFun (Z (a + 5) (by omega) (by omega) (by omega)) m, fun v hv => absurd hv (Nat.not_lt_zero v), ⟨fun m _ => congrFun (Z (a + 8 + 1) (by omega) (by omega) (by omega)) m, fun m hm => x2 m hm, fun m _ => congrFun (Z (a + 8 + 3) (by omega) (by omega) (by omega)) m, fun m _ => congrFun (Z (a + 8 + 4) (by omega) (by omega) (by omega)) m, congrFun (Z (a + 8) (by omega) (by omega) (by omega)) 4, congrFun (Z (a + 8) (by omega) (by omega) (by omega)) 5⟩⟩⟩
      have e2 : h'.2.1 2 = h17.2.1 2 := x1.2 2 (by omega)
      have e3 : h'.2.1 3 = h17.2.1 3 := x1.2 3 (by omega)
      have e4 : h17.2.1 3 = h.2.1 3 := (f2.2 3 (by decide)).trans eT1
      have e5 : (jx_wR (nwS h a) 4 1 (some a)).2.1 3 = h.2.1 3 := eT1
      rw [e5] at A2
      have A3 : txA h' N (skB (h'.2.1 3) N 0) := by
        rw [e3, e4]
        unfold txA at A2 ⊢
        rw [e2, e3]
        exact A2
      exact ⟨A3.1, A3.2.2.2.2, fun _ => ⟨Nat.zero_le N, A3⟩, fun z => absurd rfl z⟩
    refine je_loop (σ := Unit) (41) (fun k xx => [some (.ref 4), some (.ref a), some (.int (b2 ((itS (h.2.1 3) N S00 k).1 = true))), some (.int (nI k))]) (fun k _ h' => fC (stA a) (jx_wR (nwS h a) 4 1 (some a)) h' ∧ txS h' N (itS (h.2.1 3) N S00 k).2.1 ∧ rS h'.2.1 a (itS (h.2.1 3) N S00 k).2.2) (fun k xx h' hk e kk => ?_) (fun xx h' e => ?_) (0) () _ (by omega) j0
    · obtain ⟨x1, x2, x3⟩ := e
      have HJ := x1.St H1
      have SPJ := x1.Sp SP1
      have RAJ := x1.rr RA1
      have eT : h'.2.1 3 = h.2.1 3 := (x1.2 3 (by unfold stA; omega)).trans eT1
      refine je_iload2 (pc := 49) d2001_49 rfl ?_
      refine jb_ifeq (pc := 50) 78 d2001_50 (by decide) (fun c50 => ?_) (fun c50 => ?_)
      · refine je_aload1 (pc := 78) d2001_78 rfl ?_
        refine je_aret (pc := 79) d2001_79 rfl ?_
        have hx := it_e (T := h.2.1 3) (N := N) (S := S00) (n := k) (by omega) c50
        exact ⟨rfl, x1, by rw [hx]; exact x2, by rw [hx]; exact x3⟩
      · refine je_iload3 (pc := 53) d2001_53 rfl ?_
        refine je_bipush (pc := 54) (v := 40) d2001_54 rfl ?_
        refine jn_icgt (pc := 56) (a := (k)) (b := 40) 78 d2001_56 (by decide) (by omega) (by omega) (fun c56 => by exfalso; omega) (fun c56 => ?_)
        obtain ⟨i1, i2, i3⟩ := (it_wf (T := h.2.1 3) (N := N) wf_00 rfl hN k (by omega)).2.2.1 c50
        have wk := i2.1
        have X0 : txS h' N (0, (itS (h.2.1 3) N S00 k).2.1.2) := by
          have e0 : (itS (h.2.1 3) N S00 k).2.1 = (0, (itS (h.2.1 3) N S00 k).2.1.2) := Prod.ext i1 rfl
          rw [← e0]; exact x2
        have W0 : (itS (h.2.1 3) N S00 k).2.2.1.1 ≤ 10 ∧ (itS (h.2.1 3) N S00 k).2.2.1.2.1 ≤ 8 ∧ (itS (h.2.1 3) N S00 k).2.2.1.2.2.1 ≤ 8 := ⟨by rcases wk.1 with z | z <;> omega, wk.2.1, wk.2.2.1⟩
        have eI : itS (h.2.1 3) N S00 (k + 1) = ((goS (h.2.1 3) N (clS (h.2.1 3) N k (itS (h.2.1 3) N S00 k).2.1.2 (itS (h.2.1 3) N S00 k).2.2).1).1, (goS (h.2.1 3) N (clS (h.2.1 3) N k (itS (h.2.1 3) N S00 k).2.1.2 (itS (h.2.1 3) N S00 k).2.2).1).2, (clS (h.2.1 3) N k (itS (h.2.1 3) N S00 k).2.1.2 (itS (h.2.1 3) N S00 k).2.2).2) := by rw [itS, if_pos c50]
        refine je_aload0 (pc := 59) d2001_59 rfl ?_
        refine je_iload3 (pc := 60) d2001_60 rfl ?_
        refine ju_callv (pc := 61) (as := [_]) d2001_61 jL_2_36 jM_Sr_readClause rfl (by decide) (sK4 HJ) rfl (by exact Nat.le_of_ble_eq_true rfl) (t_Sr_readClause d (N := N) (a := a) (n := k) (q := (itS (h.2.1 3) N S00 k).2.1.2) (S := (itS (h.2.1 3) N S00 k).2.2) HJ X0 i3 hN (by rw [eT]; exact hT) ha SPJ RAJ x3 W0) (fun r61 h61 q61 => ?_)
        obtain ⟨rfl, y1, y2, y3⟩ := q61
        rw [eT] at y2 y3
        have H2 := y1.St HJ
        have eT2 : h61.2.1 3 = h.2.1 3 := (y1.2 3 (by unfold stA; omega)).trans eT
        refine je_aload0 (pc := 64) d2001_64 rfl ?_
        refine ju_getr (pc := 65) (b := 2) d2001_65 jF_2_18 rfl (sK4 H2) (sR4_0 H2) ?_
        refine ju_callv (pc := 68) (as := []) d2001_68 jL_2_40 jM_Tx_goesOn rfl (by decide) (sK2 H2) rfl (by exact Nat.le_of_ble_eq_true rfl) (t_Tx_goesOn (d + 2) (N := N) (s := (clS (h.2.1 3) N k (itS (h.2.1 3) N S00 k).2.1.2 (itS (h.2.1 3) N S00 k).2.2).1) H2 y2 hN (by rw [eT2]; exact hT)) (fun r68 h68 q68 => ?_)
        obtain ⟨rfl, z1, z2⟩ := q68
        rw [eT2] at z2 ⊢
        refine ju_eqi (v := b2 ((itS (h.2.1 3) N S00 (k + 1)).1 = true)) (by rw [eI]) ?_
        refine ju_istore2 (pc := 71) (lv' := [some _, some _, some _, some _]) d2001_71 rfl rfl ?_
        refine ju_incN (pc := 72) (v := nI ((k) + 1)) (lv' := [some _, some _, some _, some _]) d2001_72 rfl (nI_1 (k)) rfl ?_
        refine je_goto (pc := 75) 49 d2001_75 (by decide) ?_
        refine kk () _ ⟨(x1.tr y1).tr z1.sa, by rw [eI]; exact z2, by rw [eI]; exact y3.of (fun b b1 b2 => z1.2 b (by omega))⟩
    · obtain ⟨x1, x2, x3⟩ := e
      have HJ := x1.St H1
      have SPJ := x1.Sp SP1
      have RAJ := x1.rr RA1
      have eT : h'.2.1 3 = h.2.1 3 := (x1.2 3 (by unfold stA; omega)).trans eT1
      refine je_iload2 (pc := 49) d2001_49 rfl ?_
      refine jb_ifeq (pc := 50) 78 d2001_50 (by decide) (fun c50 => ?_) (fun c50 => absurd c50 (it_41 wf_00 rfl hN))
      refine je_aload1 (pc := 78) d2001_78 rfl ?_
      refine je_aret (pc := 79) d2001_79 rfl ?_
      have hx := it_e (T := h.2.1 3) (N := N) (S := S00) (n := 41) (by omega) (it_41 wf_00 rfl hN)
      exact ⟨rfl, x1, by rw [hx]; exact x2, by rw [hx]; exact x3⟩
