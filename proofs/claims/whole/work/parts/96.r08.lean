/-! a rule told: the class reads it -/
theorem fg_6 {d bc bs i pc : Nat} {a b c e x y : Option Value} {st : List Value} {h : jx_H} {Q : Option Value → jx_H → Prop} (t : jx_Ev d bc bs i pc [a, b, c, e, none, none] st h Q) : jx_Ev d bc bs i pc [a, b, c, e, x, y] st h Q := jx_Ev.forget (lv' := [a, b, c, e, none, none]) rfl (fun k v hk => match k, hk with
  | 0, hk => hk
  | 1, hk => hk
  | 2, hk => hk
  | 3, hk => hk
  | 4, hk => absurd hk (by simp)
  | 5, hk => absurd hk (by simp)
  | k + 6, hk => absurd hk (by simp)) t
def ruG (a : Nat) (h h' : jx_H) : Prop := fC (fun b => b = 2 ∨ b = 18 ∨ a ≤ b ∧ b ≤ a + 4) h h'
theorem ruF.g {a : Nat} {h h' : jx_H} (F : ruF a h h') : ruG a h h' := F.1.mo (fun b e => by omega)
theorem ruG.tr {a : Nat} {h1 h2 h3 : jx_H} (x : ruG a h1 h2) (y : ruG a h2 h3) : ruG a h1 h3 := fC.tr x y
def rkS (h : jx_H) (a : Nat) (x : RC) : Prop := (∃ z, z ≤ 12 ∧ h.2.1 a 5 = nI z) ∧ (x.2.1.1 = 0 → h.2.1 a 5 = nI x.2.2.1 ∧ ∀ c, c < x.2.2.1 → h.2.1 (a + 2) c = nI (x.2.2.2.1 c) ∧ h.2.1 (a + 3) c = nI (x.2.2.2.2.1 c) ∧ h.2.1 (a + 4) c = nI (x.2.2.2.2.2 c))
theorem rcI.eq {h h' : jx_H} {a N : Nat} {T : Nat → Int32} {s : RS} (B : rcI h a N T s) (e1 : h'.1 = h.1 ∧ h'.2.2.2 = h.2.2.2) (e2 : h'.2.1 2 = h.2.1 2) (e3 : h'.2.1 3 = h.2.1 3) (e18 : h'.2.1 18 = h.2.1 18) (ea : h'.2.1 a 1 = h.2.1 a 1) (ea1 : h'.2.1 (a + 1) = h.2.1 (a + 1)) : rcI h' a N T s := by
  have F : fC (fun _ => True) h h' := ⟨e1, fun b hb => absurd trivial hb⟩
  refine ⟨⟨F.St B.1.1, F.Rl B.1.2.1, F.rr B.1.2.2.1, e3.trans B.1.2.2.2⟩, ?_⟩
  obtain ⟨-, b1, b2, b3, b4, b5⟩ := B
  refine ⟨by rw [e2]; exact b1, by rw [e2]; exact b2, fun z => by rw [e2]; exact b3 z, by rw [ea]; exact b4, fun z => ?_⟩
  obtain ⟨c1, c2, c3, c4⟩ := b5 z
  exact ⟨c1.of e2 e3, by rw [e18]; exact c2, by rw [ea]; exact c3, by rw [ea1]; exact c4⟩
theorem rc_ac {h h' : jx_H} {a N z : Nat} {T : Nat → Int32} {s : RS} {x4 x5 : Int32} (B : rcI h a N T s) (ha : 125 ≤ a) (hz : h.2.1 a 5 = nI z) (z12 : z ≤ 12) (P : (12 ≤ z → h' = h) ∧ (z < 12 → h' = jx_wI (jx_wI (jx_wI (jx_wI h (a + 2) z x4) (a + 3) z x5) (a + 4) z (h.2.1 a 1)) a 5 (nI (z + 1)))) : ruG a h h' ∧ rcI h' a N T s ∧ (∃ z', z' ≤ 12 ∧ h'.2.1 a 5 = nI z') ∧ (z < 12 → h'.2.1 a 5 = nI (z + 1) ∧ h'.2.1 (a + 2) = jx_up (h.2.1 (a + 2)) z x4 ∧ h'.2.1 (a + 3) = jx_up (h.2.1 (a + 3)) z x5 ∧ h'.2.1 (a + 4) = jx_up (h.2.1 (a + 4)) z (h.2.1 a 1)) := by
  by_cases c : z < 12
  · have e := P.2 c
    subst e
    have F : ruG a h (jx_wI (jx_wI (jx_wI (jx_wI h (a + 2) z x4) (a + 3) z x5) (a + 4) z (h.2.1 a 1)) a 5 (nI (z + 1))) := (((fC.rf.wI (by omega)).wI (by omega)).wI (by omega)).wI (by omega)
    refine ⟨F, B.eq F.1 (by rw [wI_ne _ _ _ (by omega), wI_ne _ _ _ (by omega), wI_ne _ _ _ (by omega), wI_ne _ _ _ (by omega)]) (F.2 3 (by omega)) ?_ ?_ ?_, ⟨z + 1, by omega, by rw [wI_at, jx_up_self]⟩, fun _ => ⟨by rw [wI_at, jx_up_self], ?_, ?_, ?_⟩⟩
    · rw [wI_ne _ _ _ (by omega), wI_ne _ _ _ (by omega), wI_ne _ _ _ (by omega), wI_ne _ _ _ (by omega)]
    · rw [wI_at, jx_up_ne _ _ (by decide), wI_ne _ _ _ (by omega), wI_ne _ _ _ (by omega), wI_ne _ _ _ (by omega)]
    · rw [wI_ne _ _ _ (by omega), wI_ne _ _ _ (by omega), wI_ne _ _ _ (by omega), wI_ne _ _ _ (by omega)]
    · rw [wI_ne _ _ _ (by omega), wI_ne _ _ _ (by omega), wI_ne _ _ _ (by omega), wI_at]
    · rw [wI_ne _ _ _ (by omega), wI_ne _ _ _ (by omega), wI_at, wI_ne _ _ _ (by omega)]
    · rw [wI_ne _ _ _ (by omega), wI_at, wI_ne _ _ _ (by omega), wI_ne _ _ _ (by omega)]
  · have e := P.1 (by omega)
    subst e
    exact ⟨fC.rf, B, ⟨z, z12, hz⟩, fun y => absurd y c⟩
set_option maxHeartbeats 2000000 in
theorem t_Ru_clear (d : Nat) {bc bs : Nat} {h : jx_H} {a : Nat} (RL : jx_Rl h a) : jx_Tr (d + 1) bc bs 5001 [.ref a] h (fun r h' => r = none ∧ h' = jx_wI (jx_wI h a 1 0) a 5 0) := by
  refine jx_tr jM_Ru_clear rfl rfl (lv := [some (.ref a)]) rfl ?_
  refine je_aload0 (pc := 0) d5001_0 rfl ?_
  refine je_iconst (pc := 1) (v := 0) d5001_1 rfl ?_
  refine ju_puti (pc := 2) d5001_2 jF_5_28 rfl RL.1 ?_
  refine je_aload0 (pc := 5) d5001_5 rfl ?_
  refine je_iconst (pc := 6) (v := 0) d5001_6 rfl ?_
  refine ju_puti (pc := 7) d5001_7 jF_5_32 rfl RL.wI.1 ?_
  refine je_ret (pc := 10) d5001_10 rfl ?_
  exact ⟨rfl, rfl⟩
set_option maxHeartbeats 2000000 in
theorem t_Ru_addClause (d : Nat) {bc bs : Nat} {h : jx_H} {a z : Nat} {x4 x5 : Int32} (RL : jx_Rl h a) (hz : h.2.1 a 5 = nI z) (z12 : z ≤ 12) : jx_Tr (d + 1) bc bs 5003 [.ref a, .int x4, .int x5] h (fun r h' => r = none ∧ (12 ≤ z → h' = h) ∧ (z < 12 → h' = jx_wI (jx_wI (jx_wI (jx_wI h (a + 2) z x4) (a + 3) z x5) (a + 4) z (h.2.1 a 1)) a 5 (nI (z + 1)))) := by
  refine jx_tr jM_Ru_addClause rfl rfl (lv := [some (.ref a), some (.int x4), some (.int x5)]) rfl ?_
  refine je_aload0 (pc := 0) d5003_0 rfl ?_
  refine ju_geti (pc := 1) d5003_1 jF_5_32 rfl RL.1 ?_
  refine ju_eqi (v := nI z) hz ?_
  refine je_bipush (pc := 4) (v := 12) d5003_4 rfl ?_
  refine jn_icge (pc := 6) (a := (z)) (b := 12) 52 d5003_6 (by decide) (by omega) (by omega) (fun c6 => ?_) (fun c6 => ?_)
  · refine je_ret (pc := 52) d5003_52 rfl ?_
    exact ⟨rfl, fun _ => rfl, fun y => absurd y (by omega)⟩
  · refine je_aload0 (pc := 9) d5003_9 rfl ?_
    refine ju_getr (pc := 10) (b := (a + 2)) d5003_10 jF_5_15 rfl RL.1 RL.2.2.1.2 ?_
    refine je_aload0 (pc := 13) d5003_13 rfl ?_
    refine ju_geti (pc := 14) d5003_14 jF_5_32 rfl RL.1 ?_
    refine ju_eqi (v := nI z) hz ?_
    refine je_iload1 (pc := 17) d5003_17 rfl ?_
    refine ju_iast (pc := 18) (jn := (z)) d5003_18 RL.2.2.1.1 (vp_in_nI (by omega) (by decide)) (nI_clamp (by omega)) ?_
    refine je_aload0 (pc := 19) d5003_19 rfl ?_
    refine ju_getr (pc := 20) (b := (a + 3)) d5003_20 jF_5_18 rfl RL.wI.1 RL.wI.2.2.2.1.2 ?_
    refine je_aload0 (pc := 23) d5003_23 rfl ?_
    refine ju_geti (pc := 24) d5003_24 jF_5_32 rfl RL.wI.1 ?_
    refine ju_eqi (v := nI z) (by rw [wI_ne _ _ _ (by omega)]; exact hz) ?_
    refine je_iload2 (pc := 27) d5003_27 rfl ?_
    refine ju_iast (pc := 28) (jn := (z)) d5003_28 RL.wI.2.2.2.1.1 (vp_in_nI (by omega) (by decide)) (nI_clamp (by omega)) ?_
    refine je_aload0 (pc := 29) d5003_29 rfl ?_
    refine ju_getr (pc := 30) (b := (a + 4)) d5003_30 jF_5_21 rfl RL.wI.wI.1 RL.wI.wI.2.2.2.2.1.2 ?_
    refine je_aload0 (pc := 33) d5003_33 rfl ?_
    refine ju_geti (pc := 34) d5003_34 jF_5_32 rfl RL.wI.wI.1 ?_
    refine ju_eqi (v := nI z) (by rw [wI_ne _ _ _ (by omega), wI_ne _ _ _ (by omega)]; exact hz) ?_
    refine je_aload0 (pc := 37) d5003_37 rfl ?_
    refine ju_geti (pc := 38) d5003_38 jF_5_28 rfl RL.wI.wI.1 ?_
    refine ju_eqi (v := h.2.1 a 1) (by rw [wI_ne _ _ _ (by omega), wI_ne _ _ _ (by omega)]) ?_
    refine ju_iast (pc := 41) (jn := (z)) d5003_41 RL.wI.wI.2.2.2.2.1.1 (vp_in_nI (by omega) (by decide)) (nI_clamp (by omega)) ?_
    refine je_aload0 (pc := 42) d5003_42 rfl ?_
    refine je_dup (pc := 43) d5003_43 rfl ?_
    refine ju_geti (pc := 44) d5003_44 jF_5_32 rfl RL.wI.wI.wI.1 ?_
    refine ju_eqi (v := nI z) (by rw [wI_ne _ _ _ (by omega), wI_ne _ _ _ (by omega), wI_ne _ _ _ (by omega)]; exact hz) ?_
    refine je_iconst (pc := 47) (v := 1) d5003_47 rfl ?_
    refine je_iadd (pc := 48) d5003_48 ?_
    refine ju_eqi (v := nI ((z) + 1)) (nI_add (z) 1) ?_
    refine ju_puti (pc := 49) d5003_49 jF_5_32 rfl RL.wI.wI.wI.1 ?_
    refine je_ret (pc := 52) d5003_52 rfl ?_
    exact ⟨rfl, fun y => absurd y (by omega), fun _ => rfl⟩
theorem jx_Rl.rf18 {h : jx_H} {a : Nat} {v : Option Nat} (R : jx_Rl h a) (ha : 19 ≤ a) : jx_Rl (jx_wR h 18 1 v) a := by
  unfold jx_Rl at R ⊢
  rw [wR_ne _ _ _ (by omega)]
  exact R
set_option maxHeartbeats 8000000 in
theorem t_Rr_read (d : Nat) {bc bs : Nat} {h : jx_H} {a N : Nat} {T : Nat → Int32} (H : jx_St h) (RL : jx_Rl h a) (eT : h.2.1 3 = T) (hs : h.2.1 2 1 = nI N) (ha : 125 ≤ a) (ha2 : a ≤ 155) (hN : N ≤ 400) (hT : bytT T N) : jx_Tr (d + 31) bc bs 6001 [.ref 18, .ref a] h (fun r h' => r = none ∧ ruG a (jx_wR h 18 1 (some a)) h' ∧ rcI h' a N T (itR T N 13).2.1 ∧ rkS h' a (itR T N 13)) := by
  refine jx_tr jM_Rr_read rfl rfl (lv := [some (.ref 18), some (.ref a), none, none, none, none]) rfl ?_
  refine je_aload0 (pc := 0) d6001_0 rfl ?_
  refine je_aload1 (pc := 1) d6001_1 rfl ?_
  refine ju_putr (pc := 2) d6001_2 jF_6_10 rfl rfl (sK18 H) ?_
  have H1 : jx_St (jx_wR h 18 1 (some a)) := H.wR rfl
  have RL1 : jx_Rl (jx_wR h 18 1 (some a)) a := RL.rf18 (by omega)
  have RA1 : (jx_wR h 18 1 (some a)).2.2.2 18 1 = some a := by rw [wR_at, jx_up_self]
  refine je_aload0 (pc := 5) d6001_5 rfl ?_
  refine ju_getr (pc := 6) (b := a) d6001_6 jF_6_10 rfl (sK18 H1) RA1 ?_
  refine ju_callv (pc := 9) (as := []) d6001_9 jL_6_20 jM_Ru_clear rfl (by decide) RL1.1 rfl (by exact Nat.le_of_ble_eq_true rfl) (t_Ru_clear (d + 29) RL1) (fun r9 h9 q9 => ?_)
  obtain ⟨rfl, e9⟩ := q9
  obtain rfl := e9.symm
  refine je_aload0 (pc := 12) d6001_12 rfl ?_
  refine je_iconst (pc := 13) (v := 0) d6001_13 rfl ?_
  refine ju_puti (pc := 14) d6001_14 jF_6_23 rfl (sK18 H1.wI.wI) ?_
  have H2 : jx_St (jx_wI (jx_wI (jx_wI (jx_wR h 18 1 (some a)) a 1 0) a 5 0) 18 2 0) := H1.wI.wI.wI
  have RL2 : jx_Rl (jx_wI (jx_wI (jx_wI (jx_wR h 18 1 (some a)) a 1 0) a 5 0) 18 2 0) a := RL1.wI.wI.wI
  have RA2 : (jx_wI (jx_wI (jx_wI (jx_wR h 18 1 (some a)) a 1 0) a 5 0) 18 2 0).2.2.2 18 1 = some a := RA1
  have hs2 : (jx_wI (jx_wI (jx_wI (jx_wR h 18 1 (some a)) a 1 0) a 5 0) 18 2 0).2.1 2 1 = nI N := by rw [wI_ne _ _ _ (by omega), wI_ne _ _ _ (by omega), wI_ne _ _ _ (by omega)]; exact hs
  refine je_aload0 (pc := 17) d6001_17 rfl ?_
  refine ju_getr (pc := 18) (b := 2) d6001_18 jF_6_16 rfl (sK18 H2) (sR18_0 H2) ?_
  refine ju_callv (pc := 21) (as := []) d6001_21 jL_6_27 jM_Tx_start rfl (by decide) (sK2 H2) rfl (by exact Nat.le_of_ble_eq_true rfl) (t_Tx_start (d + 26) (N := N) H2 hs2 hN) (fun r21 h21 q21 => ?_)
  obtain ⟨rfl, f2, g2, A2⟩ := q21
  refine je_iconst (pc := 24) (v := 1) d6001_24 rfl ?_
  refine ju_istore2 (pc := 25) (lv' := [some _, some _, some _, none, none, none]) d6001_25 rfl rfl ?_
  refine je_iconst (pc := 26) (v := 0) d6001_26 rfl ?_
  refine ju_istore3 (pc := 27) (lv' := [some _, some _, some _, some _, none, none]) d6001_27 rfl rfl ?_
  have eX : ∀ b, b ≠ a → b ≠ 18 → (jx_wI (jx_wI (jx_wI (jx_wR h 18 1 (some a)) a 1 0) a 5 0) 18 2 0).2.1 b = h.2.1 b := fun b b1 b2 => by rw [wI_ne _ _ _ b2, wI_ne _ _ _ b1, wI_ne _ _ _ b1]; rfl
  have q0 : ruG a (jx_wR h 18 1 (some a)) h21 := (((fC.rf.wI (by omega)).wI (by omega)).wI (by omega)).tr (f2.mo (fun b e => Or.inl e))
  have e2a : h21.2.1 a = (jx_wI (jx_wI (jx_wI (jx_wR h 18 1 (some a)) a 1 0) a 5 0) 18 2 0).2.1 a := f2.2 a (by omega)
  have ea1 : (jx_wI (jx_wI (jx_wI (jx_wR h 18 1 (some a)) a 1 0) a 5 0) 18 2 0).2.1 a 1 = 0 := by rw [wI_ne _ _ _ (by omega), wI_at, jx_up_ne _ _ (by decide), wI_at, jx_up_self]
  have ea5 : (jx_wI (jx_wI (jx_wI (jx_wR h 18 1 (some a)) a 1 0) a 5 0) 18 2 0).2.1 a 5 = 0 := by rw [wI_ne _ _ _ (by omega), wI_at, jx_up_self]
  have e18 : h21.2.1 18 2 = 0 := by rw [f2.2 18 (by decide), wI_at, jx_up_self]
  have eT2 : h21.2.1 3 = T := (f2.2 3 (by decide)).trans ((eX 3 (by omega) (by decide)).trans eT)
  have A3 : txA h21 N (skB T N 0) := by
    have q := A2
    rw [eX 3 (by omega) (by decide), eT] at q
    exact q
  have q1 : rcI h21 a N T (itR T N 0).2.1 := ⟨⟨f2.St H2, f2.Rl RL2, f2.rr RA2, eT2⟩, A3.1, A3.2.2.2.2, fun z => absurd rfl z, ⟨0, by decide, by rw [e2a]; exact ea1⟩, fun _ => ⟨A3, e18, by rw [e2a]; exact ea1, fun j hj => absurd hj (Nat.not_lt_zero j)⟩⟩
  have q2 : rkS h21 a (itR T N 0) := ⟨⟨0, by decide, by rw [e2a]; exact ea5⟩, fun _ => ⟨by rw [e2a]; exact ea5, fun c hc => absurd hc (Nat.not_lt_zero c)⟩⟩
  refine je_loop (σ := Unit) (13) (fun k xx => [some (.ref 18), some (.ref a), some (.int (b2 ((itR T N k).1 = true))), some (.int (nI k)), none, none]) (fun k _ h' => ruG a (jx_wR h 18 1 (some a)) h' ∧ rcI h' a N T (itR T N k).2.1 ∧ rkS h' a (itR T N k)) (fun k xx h' hk e kk => ?_) (fun xx h' e => ?_) (0) () _ (by omega) ⟨q0, q1, q2⟩
  · obtain ⟨j1, j2, j3⟩ := e
    refine je_iload2 (pc := 28) d6001_28 rfl ?_
    refine jb_ifeq (pc := 29) 153 d6001_29 (by decide) (fun c29 => ?_) (fun c29 => ?_)
    · refine je_ret (pc := 153) d6001_153 rfl ?_
      have hx := itR_e (T := T) (N := N) (n := k) (by omega) c29
      rw [hx]
      exact ⟨rfl, j1, j2, j3⟩
    · obtain ⟨i1, i2, -⟩ := itR_g (T := T) hN k (by omega)
      obtain ⟨i3, i4, i5⟩ := i2 c29
      have eI : itR T N (k + 1) = nxR T N k (itR T N k) := by rw [itR, if_pos c29]
      have J0 := c0_j (n := k) i1 hN
      have J1 := c1_j (n := k) i1 hN
      have J2 := c2_j (n := k) i1 hN
      have K128 : ∀ h3 x4 x5, ruF a h' h3 → rcI h3 a N T (c2R T N k (itR T N k).2.1) → ((c2R T N k (itR T N k).2.1).1 = 0 → x4 = nI (itR T N k).2.1.2.2.2.length ∧ x5 = nI (c1R T N k (itR T N k).2.1).2.2.2.length) → jx_Ev (d + 31) bc bs 6001 128 [some (.ref 18), some (.ref a), some (.int (b2 ((itR T N k).1 = true))), some (.int (nI k)), some (.int x4), some (.int x5)] [] h3 (fun r h' => r = none ∧ ruG a (jx_wR h 18 1 (some a)) h' ∧ rcI h' a N T (itR T N 13).2.1 ∧ rkS h' a (itR T N 13)) := by
        intro h3 x4 x5 GF G1 V
        have G0 : ruG a (jx_wR h 18 1 (some a)) h3 := j1.tr GF.g
        obtain ⟨z, z1, z0⟩ := j3.1
        have z2 : h3.2.1 a 5 = nI z := GF.2.trans z0
        have GG : ∀ b, a + 2 ≤ b → b ≤ a + 4 → h3.2.1 b = h'.2.1 b := fun b b1 b2 => GF.1.2 b (by omega)
        have G2 : (c2R T N k (itR T N k).2.1).1 = 0 → h3.2.1 a 5 = nI (itR T N k).2.2.1 ∧ ∀ c, c < (itR T N k).2.2.1 → h3.2.1 (a + 2) c = nI ((itR T N k).2.2.2.1 c) ∧ h3.2.1 (a + 3) c = nI ((itR T N k).2.2.2.2.1 c) ∧ h3.2.1 (a + 4) c = nI ((itR T N k).2.2.2.2.2 c) := fun _ => by
          rw [GF.2, GG (a + 2) (by omega) (by omega), GG (a + 3) (by omega) (by omega), GG (a + 4) (by omega) (by omega)]
          exact j3.2 i3
        refine je_aload0 (pc := 128) d6001_128 rfl ?_
        refine ju_getr (pc := 129) (b := a) d6001_129 jF_6_10 rfl (sK18 G1.1.1) G1.1.2.2.1 ?_
        refine je_iload (pc := 132) d6001_132 rfl ?_
        refine je_iload (pc := 134) d6001_134 rfl ?_
        refine ju_callv (pc := 136) (as := [_, _]) d6001_136 jL_6_56 jM_Ru_addClause rfl (by decide) G1.1.2.1.1 rfl (by exact Nat.le_of_ble_eq_true rfl) (t_Ru_addClause (d + 29) (z := z) G1.1.2.1 z2 z1) (fun r136 h136 q136 => ?_)
        obtain ⟨rfl, P⟩ := q136
        obtain ⟨A1, A2, A3, A4⟩ := rc_ac G1 ha z2 z1 P
        have X4 : txS h136 N ((c2R T N k (itR T N k).2.1).1, (c2R T N k (itR T N k).2.1).2.1) := ⟨A2.2.1, A2.2.2.1, fun f => ⟨(J2.1.1 f).1, by rw [A2.1.2.2.2, (J2.1.1 f).2.1]; exact (A2.2.2.2.2.2 f).1⟩, A2.2.2.2.1⟩
        refine je_aload0 (pc := 139) d6001_139 rfl ?_
        refine ju_getr (pc := 140) (b := 2) d6001_140 jF_6_16 rfl (sK18 A2.1.1) (sR18_0 A2.1.1) ?_
        refine ju_callv (pc := 143) (as := []) d6001_143 jL_6_60 jM_Tx_goesOn rfl (by decide) (sK2 A2.1.1) rfl (by exact Nat.le_of_ble_eq_true rfl) (t_Tx_goesOn (d + 25) (N := N) (s := ((c2R T N k (itR T N k).2.1).1, (c2R T N k (itR T N k).2.1).2.1)) A2.1.1 X4 hN (by rw [A2.1.2.2.2]; exact hT)) (fun r143 h143 q143 => ?_)
        obtain ⟨rfl, z3, z4⟩ := q143
        rw [A2.1.2.2.2] at z4 ⊢
        refine ju_eqi (v := b2 ((itR T N (k + 1)).1 = true)) (by rw [eI]; rfl) ?_
        refine ju_istore2 (pc := 146) (lv' := [some _, some _, some _, some _, some _, some _]) d6001_146 rfl rfl ?_
        refine ju_incN (pc := 147) (v := nI ((k) + 1)) (lv' := [some _, some _, some _, some _, some _, some _]) d6001_147 rfl (nI_1 (k)) rfl ?_
        refine je_goto (pc := 150) 28 d6001_150 (by decide) ?_
        obtain ⟨g1, g2, g3, g4⟩ := gs_j J2 hN
        obtain ⟨F7, B7⟩ := A2.tx (s' := (gsR T N (c2R T N k (itR T N k).2.1)).2) ha z3 z4.1 z4.2.1 z4.2.2.2 (fun f => ⟨g3 f, by have q := (z4.2.2.1 f).2; rw [(z3.2 3 (by decide)).trans A2.1.2.2.2] at q; exact q, g4⟩)
        have r2 : h143.2.1 (a + 2) = h136.2.1 (a + 2) := z3.2 _ (by omega)
        have r3 : h143.2.1 (a + 3) = h136.2.1 (a + 3) := z3.2 _ (by omega)
        have r4 : h143.2.1 (a + 4) = h136.2.1 (a + 4) := z3.2 _ (by omega)
        have r0 : h143.2.1 a = h136.2.1 a := z3.2 _ (by omega)
        refine fg_6 (kk () _ ⟨((G0.tr A1).tr F7.g), by rw [eI]; exact B7, ?_⟩)
        rw [eI]
        refine ⟨by rw [r0]; exact A3, fun f => ?_⟩
        have f2 : (c2R T N k (itR T N k).2.1).1 = 0 := g3 f
        obtain ⟨v4, v5⟩ := V f2
        have k11 : k ≤ 11 := by
          have := (c1_o i1 hN (c2_o i1 hN f2).1).2.2.1
          omega
        obtain ⟨w1, w2⟩ := G2 f2
        have zk : z = k := (nI_eq (by omega) (by omega)).mp (z2.symm.trans (w1.trans (by rw [i4])))
        subst zk
        obtain ⟨a5, a6, a7, a8⟩ := A4 (by omega)
        refine ⟨?_, fun c hc => ?_⟩
        · show h143.2.1 a 5 = nI ((itR T N z).2.2.1 + 1)
          rw [r0, a5, i4]
        · have hc : c < (itR T N z).2.2.1 + 1 := hc
          show h143.2.1 (a + 2) c = nI (jx_up (itR T N z).2.2.2.1 _ _ c) ∧ h143.2.1 (a + 3) c = nI (jx_up (itR T N z).2.2.2.2.1 _ _ c) ∧ h143.2.1 (a + 4) c = nI (jx_up (itR T N z).2.2.2.2.2 _ _ c)
          rw [r2, r3, r4, a6, a7, a8]
          by_cases y : c = z
          · rw [y, jx_up_self, jx_up_self, jx_up_self, jx_up_self, jx_up_self, jx_up_self]
            exact ⟨v4, v5, (G1.2.2.2.2.2 f2).2.2.1⟩
          · rw [jx_up_ne _ _ y, jx_up_ne _ _ y, jx_up_ne _ _ y, jx_up_ne _ _ y, jx_up_ne _ _ y, jx_up_ne _ _ y]
            exact w2 c (by omega)
      have K75 : ∀ h2, ruF a h' h2 → rcI h2 a N T (c0R T N k (itR T N k).2.1) → jx_Ev (d + 31) bc bs 6001 75 [some (.ref 18), some (.ref a), some (.int (b2 ((itR T N k).1 = true))), some (.int (nI k)), none, none] [] h2 (fun r h' => r = none ∧ ruG a (jx_wR h 18 1 (some a)) h' ∧ rcI h' a N T (itR T N 13).2.1 ∧ rkS h' a (itR T N 13)) := by
        intro h2 G0 G1
        refine je_aload0 (pc := 75) d6001_75 rfl ?_
        refine ju_getr (pc := 76) (b := 2) d6001_76 jF_6_16 rfl (sK18 G1.1.1) (sR18_0 G1.1.1) ?_
        refine ju_callv (pc := 79) (as := []) d6001_79 jL_6_42 jM_Tx_advance rfl (by decide) (sK2 G1.1.1) rfl (by exact Nat.le_of_ble_eq_true rfl) (t_Tx_advance_R (d + 27) G1 ha hN J0.1.1) (fun r79 h79 q79 => ?_)
        obtain ⟨rfl, F2, B2⟩ := q79
        refine je_aload0 (pc := 82) d6001_82 rfl ?_
        refine ju_getr (pc := 83) (b := a) d6001_83 jF_6_10 rfl (sK18 B2.1.1) B2.1.2.2.1 ?_
        refine ju_geti (pc := 86) d6001_86 jF_6_45 rfl B2.1.2.1.1 ?_
        refine ju_istore (pc := 89) (lv' := [some _, some _, some _, some _, some _, none]) d6001_89 rfl rfl ?_
        refine je_aload0 (pc := 91) d6001_91 rfl ?_
        refine ju_callv (pc := 92) (as := []) d6001_92 jL_6_48 jM_Rr_readSum rfl (by decide) (sK18 B2.1.1) rfl (by exact Nat.le_of_ble_eq_true rfl) (t_Rr_readSum (d + 22) B2 ha hN hT (av_j J0).1) (fun r92 h92 q92 => ?_)
        obtain ⟨rfl, F3, B3⟩ := q92
        have B3 : rcI h92 a N T (c1R T N k (itR T N k).2.1) := B3
        refine je_aload0 (pc := 95) d6001_95 rfl ?_
        refine ju_getr (pc := 96) (b := a) d6001_96 jF_6_10 rfl (sK18 B3.1.1) B3.1.2.2.1 ?_
        refine ju_geti (pc := 99) d6001_99 jF_6_45 rfl B3.1.2.1.1 ?_
        refine ju_istore (pc := 102) (lv' := [some _, some _, some _, some _, some _, some _]) d6001_102 rfl rfl ?_
        have V : (c2R T N k (itR T N k).2.1).1 = 0 → h79.2.1 a 1 = nI (itR T N k).2.1.2.2.2.length ∧ h92.2.1 a 1 = nI (c1R T N k (itR T N k).2.1).2.2.2.length := fun f2 => by
          have f1 := (c2_o i1 hN f2).1
          have f0 := gd_0 (sm_gd hN) f1
          obtain ⟨y1, -, -, y4⟩ := c0_o i1.1.1 hN (av_0 f0)
          have e5 := (av_ok y1 i1.1.1).2.2.2.2
          refine ⟨?_, (B3.2.2.2.2.2 f1).2.2.1⟩
          have q := (B2.2.2.2.2.2 f0).2.2.1
          rw [y4, e5] at q
          exact q
        refine je_aload0 (pc := 104) d6001_104 rfl ?_
        refine ju_getr (pc := 105) (b := 2) d6001_105 jF_6_16 rfl (sK18 B3.1.1) (sR18_0 B3.1.1) ?_
        refine je_ldcS (pc := 108) (e := 7) d6001_108 rfl ?_
        refine ju_callv (pc := 110) (as := [_]) d6001_110 jL_6_34 jM_Tx_isWord rfl (by decide) (sK2 B3.1.1) rfl (by exact Nat.le_of_ble_eq_true rfl) (t_Tx_isWord_R (d + 25) (e := 7) (by decide) B3 hN hT J1.1.1) (fun r110 h110 q110 => ?_)
        obtain ⟨rfl, e110⟩ := q110
        obtain rfl := e110.symm
        refine jb_ifeq (pc := 113) 128 d6001_113 (by decide) (fun c113 => ?_) (fun c113 => ?_)
        · exact K128 _ _ _ (((G0.tr F2).tr F3)) (by unfold c2R; rw [if_neg c113]; exact B3) V
        · refine je_aload0 (pc := 116) d6001_116 rfl ?_
          refine ju_getr (pc := 117) (b := 2) d6001_117 jF_6_16 rfl (sK18 B3.1.1) (sR18_0 B3.1.1) ?_
          refine ju_callv (pc := 120) (as := []) d6001_120 jL_6_42 jM_Tx_advance rfl (by decide) (sK2 B3.1.1) rfl (by exact Nat.le_of_ble_eq_true rfl) (t_Tx_advance_R (d + 27) B3 ha hN J1.1.1) (fun r120 h120 q120 => ?_)
          obtain ⟨rfl, F4, B4⟩ := q120
          refine je_aload0 (pc := 123) d6001_123 rfl ?_
          refine je_iconst (pc := 124) (v := 0) d6001_124 rfl ?_
          refine ju_callv (pc := 125) (as := [_]) d6001_125 jL_6_53 jM_Rr_readTest rfl (by decide) (sK18 B4.1.1) rfl (by exact Nat.le_of_ble_eq_true rfl) (t_Rr_readTest_10 d B4 ha hN hT (av_j J1).1) (fun r125 h125 q125 => ?_)
          obtain ⟨rfl, F5, B5⟩ := q125
          exact K128 _ _ _ (((((G0.tr F2).tr F3).tr F4).tr F5)) (by unfold c2R; rw [if_pos c113]; exact B5) V
      refine je_iload3 (pc := 32) d6001_32 rfl ?_
      refine je_bipush (pc := 33) (v := 12) d6001_33 rfl ?_
      refine jn_icgt (pc := 35) (a := (k)) (b := 12) 153 d6001_35 (by decide) (by omega) (by omega) (fun c35 => by exfalso; omega) (fun c35 => ?_)
      refine je_aload0 (pc := 38) d6001_38 rfl ?_
      refine ju_getr (pc := 39) (b := 2) d6001_39 jF_6_16 rfl (sK18 j2.1.1) (sR18_0 j2.1.1) ?_
      refine je_ldcS (pc := 42) (e := 6) d6001_42 rfl ?_
      refine ju_callv (pc := 44) (as := [_]) d6001_44 jL_6_34 jM_Tx_isWord rfl (by decide) (sK2 j2.1.1) rfl (by exact Nat.le_of_ble_eq_true rfl) (t_Tx_isWord_R (d + 25) (e := 6) (by decide) j2 hN hT i1.1.1) (fun r44 h44 q44 => ?_)
      obtain ⟨rfl, e44⟩ := q44
      obtain rfl := e44.symm
      refine jb_ifne (pc := 47) 61 d6001_47 (by decide) (fun c47 => ?_) (fun c47 => ?_)
      · refine je_iload3 (pc := 61) d6001_61 rfl ?_
        refine je_bipush (pc := 62) (v := 12) d6001_62 rfl ?_
        refine jn_icne (pc := 64) (a := (k)) (b := 12) 75 d6001_64 (by decide) (by omega) (by omega) (fun c64 => ?_) (fun c64 => ?_)
        · exact K75 _ ruF.rf (by unfold c0R; rw [if_pos c47, if_neg c64]; exact j2)
        · refine je_aload0 (pc := 67) d6001_67 rfl ?_
          refine ju_getr (pc := 68) (b := 2) d6001_68 jF_6_16 rfl (sK18 j2.1.1) (sR18_0 j2.1.1) ?_
          refine je_iconst (pc := 71) (v := 4) d6001_71 rfl ?_
          refine ju_callv (pc := 72) (as := [_]) d6001_72 jL_6_38 jM_Tx_blame rfl (by decide) (sK2 j2.1.1) rfl (by exact Nat.le_of_ble_eq_true rfl) (t_Tx_blame_R (d + 29) (k := 4) (by decide) j2 ha hN i1.1.1) (fun r72 h72 q72 => ?_)
          obtain ⟨rfl, F1, B1⟩ := q72
          exact K75 _ F1 (by unfold c0R; rw [if_pos c47, if_pos c64]; exact B1)
      · refine je_aload0 (pc := 50) d6001_50 rfl ?_
        refine ju_getr (pc := 51) (b := 2) d6001_51 jF_6_16 rfl (sK18 j2.1.1) (sR18_0 j2.1.1) ?_
        refine je_iconst (pc := 54) (v := 0) d6001_54 rfl ?_
        refine ju_callv (pc := 55) (as := [_]) d6001_55 jL_6_38 jM_Tx_blame rfl (by decide) (sK2 j2.1.1) rfl (by exact Nat.le_of_ble_eq_true rfl) (t_Tx_blame_R (d + 29) (k := 0) (by decide) j2 ha hN i1.1.1) (fun r55 h55 q55 => ?_)
        obtain ⟨rfl, F1, B1⟩ := q55
        refine je_goto (pc := 58) 75 d6001_58 (by decide) ?_
        exact K75 _ F1 (by unfold c0R; rw [if_neg c47]; exact B1)
  · obtain ⟨j1, j2, j3⟩ := e
    refine je_iload2 (pc := 28) d6001_28 rfl ?_
    refine jb_ifeq (pc := 29) 153 d6001_29 (by decide) (fun c29 => ?_) (fun c29 => absurd c29 (itR_13 hN))
    refine je_ret (pc := 153) d6001_153 rfl ?_
    exact ⟨rfl, j1, j2, j3⟩
