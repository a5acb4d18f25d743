/-! push: the whole -/
def PBt (S : MS) (R : Option MR) (n : Nat) (L : ML) (t : Nat) : Option (Nat × Nat) → Prop
  | none => ∀ r, r < t → gpF S R n L r = false
  | some (q, r) => (r < t ∧ gpF S R n L r = true ∧ cnD (2 * S.1.1 + 1) n r = q) ∧ (∀ i, i < t → gpF S R n L i = true → q ≤ cnD (2 * S.1.1 + 1) n i) ∧ ∀ i, i < r → gpF S R n L i = true → q < cnD (2 * S.1.1 + 1) n i
theorem PBt.no {S : MS} {R : Option MR} {n t : Nat} {L : ML} : ∀ {o : Option (Nat × Nat)}, PBt S R n L t o → gpF S R n L t = false → PBt S R n L (t + 1) o
  | none, a, e => fun r hr => by
    by_cases c : r = t
    · rw [c]; exact e
    · exact a r (by omega)
  | some (q, r), ⟨⟨a1, a2, a3⟩, a4, a5⟩, e => ⟨⟨by omega, a2, a3⟩, fun i hi g => by
    by_cases c : i = t
    · rw [c, e] at g; cases g
    · exact a4 i (by omega) g, a5⟩
theorem PBt.ge {S : MS} {R : Option MR} {n t q r : Nat} {L : ML} (a : PBt S R n L t (some (q, r))) (h : q ≤ cnD (2 * S.1.1 + 1) n t) : PBt S R n L (t + 1) (some (q, r)) := by
  obtain ⟨⟨a1, a2, a3⟩, a4, a5⟩ := a
  refine ⟨⟨by omega, a2, a3⟩, fun i hi g => ?_, a5⟩
  by_cases c : i = t
  · rw [c]; exact h
  · exact a4 i (by omega) g
theorem PBt.lt {S : MS} {R : Option MR} {n t q r : Nat} {L : ML} (a : PBt S R n L t (some (q, r))) (g : gpF S R n L t = true) (h : cnD (2 * S.1.1 + 1) n t < q) : PBt S R n L (t + 1) (some (cnD (2 * S.1.1 + 1) n t, t)) := by
  obtain ⟨⟨a1, a2, a3⟩, a4, a5⟩ := a
  refine ⟨⟨by omega, g, rfl⟩, fun i hi g2 => ?_, fun i hi g2 => ?_⟩
  · by_cases c : i = t
    · rw [c]; exact Nat.le_refl _
    · have := a4 i (by omega) g2; omega
  · have := a4 i (by omega) g2; omega
theorem PBt.fs {S : MS} {R : Option MR} {n t : Nat} {L : ML} (a : PBt S R n L t none) (g : gpF S R n L t = true) : PBt S R n L (t + 1) (some (cnD (2 * S.1.1 + 1) n t, t)) := by
  refine ⟨⟨by omega, g, rfl⟩, fun i hi g2 => ?_, fun i hi g2 => ?_⟩
  · by_cases c : i = t
    · rw [c]; exact Nat.le_refl _
    · have := a i (by omega); rw [g2] at this; cases this
  · have := a i hi; rw [g2] at this; cases this
theorem PBt.ex (S : MS) (R : Option MR) (n : Nat) (L : ML) : ∀ t, ∃ o, PBt S R n L t o
  | 0 => ⟨none, fun r hr => absurd hr (Nat.not_lt_zero r)⟩
  | t + 1 => by
    obtain ⟨o, e⟩ := PBt.ex S R n L t
    cases g : gpF S R n L t
    · exact ⟨o, e.no g⟩
    · match o, e with
      | none, e => exact ⟨_, e.fs g⟩
      | some (q, r), e =>
        by_cases c : q ≤ cnD (2 * S.1.1 + 1) n t
        · exact ⟨_, e.ge c⟩
        · exact ⟨_, e.lt g (by omega)⟩
theorem PBt.fin {S : MS} {R : Option MR} {n : Nat} {L : ML} {o : Option (Nat × Nat)} (h : PBt S R n L ((2 * S.1.1 + 1) ^ n) o) : PB S R n L o := by
  match o, h with
  | none, h => exact h
  | some (q, r), h => exact h
theorem opw {o n : Nat} (ho : o ≤ 21) (hn : n ≤ 3) : o ^ n ≤ 9261 := Nat.le_trans (Nat.pow_le_pow_left ho n) (Nat.le_trans (Nat.pow_le_pow_right (by decide) hn) (by decide))
set_option maxHeartbeats 4000000 in
theorem mo_fd {d bc bs n r : Nat} {h : jx_H} {Q : Option Value → jx_H → Prop} {S : MS} (H : jx_St h) (hmi : S.1.1 ≤ 10) (h1 : 1 ≤ n) (h3 : n ≤ 3) (hr : r < 10000) (v2 v4 : Int32) (x6 x7 : Option Value) (hK : ∀ h' x6 x7, fC (fun b => b = 294) h h' → (∀ j, j < n → h'.2.1 294 j = chV (dgD (2 * S.1.1 + 1) n r j)) → jx_Ev (d + 9) bc bs 12086 90 [some (.ref 253), some (.int (nI n)), some (.int v2), some (.int (nI (2 * S.1.1 + 1))), some (.int v4), some (.int (nI r)), some (.int x6), some (.int x7)] [] h' Q) : jx_Ev (d + 9) bc bs 12086 51 [some (.ref 253), some (.int (nI n)), some (.int v2), some (.int (nI (2 * S.1.1 + 1))), some (.int v4), some (.int (nI r)), x6, x7] [] h Q := by
  refine je_iload (pc := 51) d12086_51 rfl ?_
  refine ju_eqi (v := nI (r / (2 * S.1.1 + 1) ^ 0)) (by rw [Nat.pow_zero, Nat.div_one]) ?_
  refine ju_istore (pc := 53) (lv' := [some _, some _, some _, some _, some _, some _, some _, _]) d12086_53 rfl rfl ?_
  refine je_iload1 (pc := 55) d12086_55 rfl ?_
  refine je_iconst (pc := 56) (v := 1) d12086_56 rfl ?_
  refine je_isub (pc := 57) d12086_57 ?_
  refine ju_istore (pc := 58) (lv' := [some _, some _, some _, some _, some _, some _, some _, some _]) d12086_58 rfl rfl ?_
  refine je_loop (σ := Unit) (n) (fun k xx => [some (.ref 253), some (.int (nI n)), some (.int v2), some (.int (nI (2 * S.1.1 + 1))), some (.int v4), some (.int (nI r)), some (.int (nI (r / (2 * S.1.1 + 1) ^ k))), some (.int (nI (n - k) - 1))]) (fun k _ h' => fC (fun b => b = 294) h h' ∧ ∀ j, n - k ≤ j → j < n → h'.2.1 294 j = chV (dgD (2 * S.1.1 + 1) n r j)) (fun k xx h' hk e kk => ?_) (fun xx h' e => ?_) (0) () h (by omega) ⟨fC.rf, fun j h1 h2 => by omega⟩
  · obtain ⟨e1, e2⟩ := e
    have H1 := e1.St H
    have ek : nI (n - k) - 1 = nI (n - k - 1) := pk_sub (a := n - k) (b := 1) (by omega)
    rw [ek]
    have xl : r / (2 * S.1.1 + 1) ^ k ≤ r := Nat.div_le_self _ _
    refine je_iload (pc := 60) d12086_60 rfl ?_
    refine jn_iflt (pc := 62) (a := (n - k - 1)) 90 d12086_62 (by decide) (by omega) (fun c62 => by exfalso; omega) (fun c62 => ?_)
    refine je_aload0 (pc := 65) d12086_65 rfl ?_
    refine ju_getr (pc := 66) (b := 294) d12086_66 jF_12_136 rfl (sK253 H1) (sR253_54 H1) ?_
    refine je_iload (pc := 69) d12086_69 rfl ?_
    refine je_iload (pc := 71) d12086_71 rfl ?_
    refine je_iload3 (pc := 73) d12086_73 rfl ?_
    refine je_irem (pc := 74) d12086_74 (nI_ne0 (by omega) (by omega)) ?_
    refine ju_eqi (v := nI (r / (2 * S.1.1 + 1) ^ k % (2 * S.1.1 + 1))) (pk_rem (by omega) (by omega) (by omega)) ?_
    refine je_iconst (pc := 75) (v := 1) d12086_75 rfl ?_
    refine je_isub (pc := 76) d12086_76 ?_
    refine ju_eqi (v := chV (r / (2 * S.1.1 + 1) ^ k % (2 * S.1.1 + 1))) (chV_p _) ?_
    refine ju_iast (pc := 77) (jn := (n - k - 1)) d12086_77 (sK294 H1) (vp_in_nI (by omega) (by decide)) (nI_clamp (by omega)) ?_
    refine je_iload (pc := 78) d12086_78 rfl ?_
    refine je_iload3 (pc := 80) d12086_80 rfl ?_
    refine je_idiv (pc := 81) d12086_81 (nI_ne0 (by omega) (by omega)) ?_
    refine ju_eqi (v := nI (r / (2 * S.1.1 + 1) ^ k / (2 * S.1.1 + 1))) (pk_div (by omega) (by omega) (by omega)) ?_
    refine ju_istore (pc := 82) (lv' := [some _, some _, some _, some _, some _, some _, some _, some _]) d12086_82 rfl rfl ?_
    refine ju_inc (pc := 84) (y := -1) (lv' := [some _, some _, some _, some _, some _, some _, some _, some _]) d12086_84 rfl rfl rfl ?_
    refine je_goto (pc := 87) 60 d12086_87 (by decide) ?_
    rw [xm1, show n - k - 1 = n - (k + 1) by omega, Nat.div_div_eq_div_mul, ← Nat.pow_succ]
    refine kk () _ ⟨e1.wI rfl, fun j h1 h2 => ?_⟩
    rw [wI_at]
    by_cases c : j = n - (k + 1)
    · subst c
      rw [jx_up_self, ← dg_q (by omega), show n - (n - (k + 1) + 1) = k by omega]
    · rw [jx_up_ne _ _ c]; exact e2 j (by omega) h2
  · obtain ⟨e1, e2⟩ := e
    have H1 := e1.St H
    refine je_iload (pc := 60) d12086_60 rfl ?_
    refine je_iflt (pc := 62) 90 d12086_62 (by decide) (fun c62 => ?_) (fun c62 => absurd c62 (fun q => q (by rw [Nat.sub_self]; decide)))
    exact hK _ _ _ e1 (fun j hj => e2 j (by omega) hj)
set_option maxHeartbeats 8000000 in
theorem t_Mo_findsPush (d : Nat) {bc bs : Nat} {h : jx_H} {S : MS} {R : Option MR} {L : ML} {nn : Nat} (H : jx_St h) (C : mLaw h S R) (wS : wfS S) (h0 : 0 < S.1.1) (hmi : S.1.1 ≤ 10) (hL : mLa h.2.1 L) (hN : L.2.2.2.2.2 = nI nn) {n : Nat} {o : Option (Nat × Nat)} (h1 : 1 ≤ n) (h3 : n ≤ 3) (hnn : nn + n < 998) (ho : PB S R n L o) : jx_Tr (d + 9) bc bs 12086 [.ref 253, .int (nI n)] h (fun r h' => r = some (.int (pvI o)) ∧ mLk h h' L ∧ (∀ j, j < 9 → h'.2.1 254 j = h.2.1 254 j) ∧ ∀ q r, o = some (q, r) → ∀ j, j < n → h'.2.1 295 j = chV (dgD (2 * S.1.1 + 1) n r j)) := by
  refine jx_tr jM_Mo_findsPush rfl rfl (lv := [some (.ref 253), some (.int (nI n)), none, none, none, none, none, none]) rfl ?_
  have hpw := opw (o := (2 * S.1.1 + 1)) (n := n) (by omega) h3
  refine je_iconst (pc := 0) (v := -1) d12086_0 rfl ?_
  refine ju_istore2 (pc := 1) (lv' := [some _, some _, some _, none, none, none, none, none]) d12086_1 rfl rfl ?_
  refine je_iconst (pc := 2) (v := 2) d12086_2 rfl ?_
  refine je_aload0 (pc := 3) d12086_3 rfl ?_
  refine ju_getr (pc := 4) (b := 254) d12086_4 jF_12_9 rfl (sK253 H) (sR253_1 H) ?_
  refine je_iconst (pc := 7) (v := 0) d12086_7 rfl ?_
  refine ju_iald (pc := 8) (jn := 0) d12086_8 (sK254 H) (by first | assumption | exact jx_ok_dec (by decide)) (by decide) ?_
  refine ju_eqi (v := nI S.1.1) C.1.1.1 ?_
  refine je_imul (pc := 9) d12086_9 ?_
  refine ju_eqi (v := nI (2 * (S.1.1))) (pk_mul 2 (S.1.1)) ?_
  refine je_iconst (pc := 10) (v := 1) d12086_10 rfl ?_
  refine je_iadd (pc := 11) d12086_11 ?_
  refine ju_eqi (v := nI ((2 * (S.1.1)) + 1)) (nI_add (2 * (S.1.1)) 1) ?_
  refine ju_istore3 (pc := 12) (lv' := [some _, some _, some _, some _, none, none, none, none]) d12086_12 rfl rfl ?_
  refine je_iconst (pc := 13) (v := 1) d12086_13 rfl ?_
  refine ju_istore (pc := 14) (lv' := [some _, some _, some _, some _, some _, none, none, none]) d12086_14 rfl rfl ?_
  refine je_iconst (pc := 16) (v := 0) d12086_16 rfl ?_
  refine ju_istore (pc := 17) (lv' := [some _, some _, some _, some _, some _, some _, none, none]) d12086_17 rfl rfl ?_
  refine je_loop (σ := Unit) (n) (fun k xx => [some (.ref 253), some (.int (nI n)), some (.int (-1)), some (.int (nI (2 * S.1.1 + 1))), some (.int (nI ((2 * S.1.1 + 1) ^ k))), some (.int (nI k)), none, none]) (fun _ _ h' => h' = h) (fun k xx h' hk e kk => ?_) (fun xx h' e => ?_) (0) () h (by omega) rfl
  · obtain rfl := e.symm
    refine je_iload (pc := 19) d12086_19 rfl ?_
    refine je_iload1 (pc := 21) d12086_21 rfl ?_
    refine jn_icge (pc := 22) (a := (k)) (b := (n)) 37 d12086_22 (by decide) (by omega) (by omega) (fun c22 => by exfalso; omega) (fun c22 => ?_)
    refine je_iload (pc := 25) d12086_25 rfl ?_
    refine je_iload3 (pc := 27) d12086_27 rfl ?_
    refine je_imul (pc := 28) d12086_28 ?_
    refine ju_eqi (v := nI (((2 * S.1.1 + 1) ^ k) * ((2 * S.1.1 + 1)))) (pk_mul ((2 * S.1.1 + 1) ^ k) ((2 * S.1.1 + 1))) ?_
    refine ju_istore (pc := 29) (lv' := [some _, some _, some _, some _, some _, some _, none, none]) d12086_29 rfl rfl ?_
    refine ju_incN (pc := 31) (v := nI ((k) + 1)) (lv' := [some _, some _, some _, some _, some _, some _, none, none]) d12086_31 rfl (nI_1 (k)) rfl ?_
    refine je_goto (pc := 34) 19 d12086_34 (by decide) ?_
    exact kk () _ rfl
  · obtain rfl := e.symm
    refine je_iload (pc := 19) d12086_19 rfl ?_
    refine je_iload1 (pc := 21) d12086_21 rfl ?_
    refine jn_icge (pc := 22) (a := ((n))) (b := (n)) 37 d12086_22 (by decide) (by omega) (by omega) (fun c22 => ?_) (fun c22 => by exfalso; omega)
    refine je_aload0 (pc := 37) d12086_37 rfl ?_
    refine ju_callv (pc := 38) (as := []) d12086_38 jL_12_482 jM_Mo_keepsAll rfl (by decide) (sK253 H) rfl (by exact Nat.le_of_ble_eq_true rfl) (t_Mo_keepsAll (d + 5) H hL) (fun r38 h38 q38 => ?_)
    obtain ⟨rfl, k1, k2⟩ := q38
    have H1 := k1.St H
    have C1 := k1.law C
    refine je_iconst (pc := 41) (v := 0) d12086_41 rfl ?_
    refine ju_istore (pc := 42) (lv' := [some _, some _, some _, some _, some _, some _, none, none]) d12086_42 rfl rfl ?_
    refine je_loop (σ := Option (Nat × Nat) × Option Value × Option Value) ((2 * S.1.1 + 1) ^ n) (fun k xx => [some (.ref 253), some (.int (nI n)), some (.int (pvI xx.1)), some (.int (nI (2 * S.1.1 + 1))), some (.int (nI ((2 * S.1.1 + 1) ^ n))), some (.int (nI k)), xx.2.1, xx.2.2]) (fun k xx h' => mLk h h' L ∧ (∀ j, j < 9 → h'.2.1 254 j = h.2.1 254 j) ∧ PBt S R n L k xx.1 ∧ ∀ q r, xx.1 = some (q, r) → ∀ j, j < n → h'.2.1 295 j = chV (dgD (2 * S.1.1 + 1) n r j)) (fun k xx h' hk e kk => ?_) (fun xx h' e => ?_) (0) (none, none, none) h38 (by omega) ⟨k1, k2, fun r hr => absurd hr (Nat.not_lt_zero r), fun q r hq => by cases hq⟩
    · obtain ⟨e1, e2, e3, e4⟩ := e
      have H1 := e1.St H
      refine je_iload (pc := 44) d12086_44 rfl ?_
      refine je_iload (pc := 46) d12086_46 rfl ?_
      refine jn_icge (pc := 48) (a := (k)) (b := ((2 * S.1.1 + 1) ^ n)) 138 d12086_48 (by decide) (by omega) (by omega) (fun c48 => by exfalso; omega) (fun c48 => ?_)
      refine mo_fd (S := S) (n := n) (r := k) H1 hmi h1 h3 (by omega) _ _ _ _ (fun h2 x6 x7 f1 f2 => ?_)
      have k3 : mLk h h2 L := e1.fr f1 (fun b hb => by omega) (fun j _ => by rw [f1.2 254 (by omega)]) (e1.2.2.2.of (f1.2 _ (by omega)) (f1.2 _ (by omega)) (f1.2 _ (by omega)) (f1.2 _ (by omega)) (by rw [f1.2 254 (by omega)]) (by rw [f1.2 254 (by omega)]))
      have H2 := k3.St H
      have cnl := cnD_le (2 * S.1.1 + 1) n k
      refine je_aload0 (pc := 90) d12086_90 rfl ?_
      refine je_iload1 (pc := 91) d12086_91 rfl ?_
      refine ju_callv (pc := 92) (as := [_]) d12086_92 jL_12_497 jM_Mo_pushesBy rfl (by decide) (sK253 H2) rfl (by exact Nat.le_of_ble_eq_true rfl) (t_Mo_pushesBy d (g := h) (r := k) H C wS h0 hmi hN k3 h3 hnn hk f2) (fun r92 h92 q92 => ?_)
      obtain ⟨rfl, L2, y1, y2, y3⟩ := q92
      have H3 := y1.St H
      refine ju_istore (pc := 95) (lv' := [some _, some _, some _, some _, some _, some _, some _, some _]) d12086_95 rfl rfl ?_
      refine je_aload0 (pc := 97) d12086_97 rfl ?_
      refine ju_callv (pc := 98) (as := []) d12086_98 jL_12_491 jM_Mo_laysBack rfl (by decide) (sK253 H3) rfl (by exact Nat.le_of_ble_eq_true rfl) (t_Mo_laysBack_f (d + 5) H3 y1 hL) (fun r98 h98 q98 => ?_)
      obtain ⟨rfl, k8, l8, y4⟩ := q98
      have H4 := k8.St H
      have n5 : h98.2.1 295 = h'.2.1 295 := (y4.2 295 (by omega)).trans (y3.trans (f1.2 295 (by omega)))
      refine je_iload (pc := 101) d12086_101 rfl ?_
      refine je_iconst (pc := 103) (v := -1) d12086_103 rfl ?_
      refine je_iceq (pc := 104) 132 d12086_104 (by decide) (fun c104 => ?_) (fun c104 => ?_)
      · refine ju_incN (pc := 132) (v := nI ((k) + 1)) (lv' := [some _, some _, some _, some _, some _, some _, some _, some _]) d12086_132 rfl (nI_1 (k)) rfl ?_
        refine je_goto (pc := 135) 44 d12086_135 (by decide) ?_
        have gf : gpF S R n L k = false := by
          cases q : gpF S R n L k
          · rfl
          · rw [q, if_pos rfl] at c104
            exact absurd c104 (fun y => nI_pos (n := cnD (2 * S.1.1 + 1) n k) (by omega) (by rw [y]; decide))
        exact kk (xx.1, some _, some _) _ ⟨k8, l8, e3.no gf, fun q r hq j hj => by rw [n5]; exact e4 q r hq j hj⟩
      · refine je_iload2 (pc := 107) d12086_107 rfl ?_
        refine je_iconst (pc := 108) (v := -1) d12086_108 rfl ?_
        refine je_iceq (pc := 109) 118 d12086_109 (by decide) (fun c109 => ?_) (fun c109 => ?_)
        · refine je_iload (pc := 118) d12086_118 rfl ?_
          refine ju_istore2 (pc := 120) (lv' := [some _, some _, some _, some _, some _, some _, some _, some _]) d12086_120 rfl rfl ?_
          refine je_aload0 (pc := 121) d12086_121 rfl ?_
          refine ju_getr (pc := 122) (b := 294) d12086_122 jF_12_136 rfl (sK253 H4) (sR253_54 H4) ?_
          refine je_aload0 (pc := 125) d12086_125 rfl ?_
          refine ju_getr (pc := 126) (b := 295) d12086_126 jF_12_139 rfl (sK253 H4) (sR253_55 H4) ?_
          refine ju_calls (pc := 129) (as := [_, _]) d12086_129 jL_12_357 jM_Mo_copies rfl rfl (by exact Nat.le_of_ble_eq_true rfl) (t_Mo_copies (d + 7) (a := 294) (b := 295) (sK294 H4) (sK295 H4) (by decide) (by decide) (by decide)) (fun r129 h129 q129 => ?_)
          obtain ⟨rfl, g11, g12⟩ := q129
          have k10 : mLk h h129 L := k8.fr g11 (fun b hb => by omega) (fun j _ => by rw [g11.2 254 (by omega)]) (k8.2.2.2.of (g11.2 _ (by omega)) (g11.2 _ (by omega)) (g11.2 _ (by omega)) (g11.2 _ (by omega)) (by rw [g11.2 254 (by omega)]) (by rw [g11.2 254 (by omega)]))
          have l10 : ∀ j, j < 9 → h129.2.1 254 j = h.2.1 254 j := fun j hj => by rw [g11.2 254 (by omega)]; exact l8 j hj
          refine ju_incN (pc := 132) (v := nI ((k) + 1)) (lv' := [some _, some _, some _, some _, some _, some _, some _, some _]) d12086_132 rfl (nI_1 (k)) rfl ?_
          refine je_goto (pc := 135) 44 d12086_135 (by decide) ?_
          have gt : gpF S R n L k = true := by
            cases q : gpF S R n L k
            · rw [q] at c104; exact absurd rfl c104
            · rfl
          rw [gt, if_pos rfl] at c104
          rw [gt, if_pos rfl]
          have xn : xx.1 = none := by
            match hx : xx.1, c109, e3 with
            | none, _, _ => rfl
            | some (q, r), c, e3 => exact absurd c (fun y => nI_pos (n := q) (by have := e3.1.2.2; have := cnD_le (2 * S.1.1 + 1) n r; omega) (show nI q < 0 by rw [show nI q = -1 from y]; decide))
          rw [xn] at e3
          refine kk (some (cnD (2 * S.1.1 + 1) n k, k), some _, some _) _ ⟨k10, l10, e3.fs gt, fun q r hq j hj => ?_⟩
          · cases hq
            rw [g12 j (by omega), y4.2 294 (by omega), y2, f2 j hj]
        · refine je_iload (pc := 112) d12086_112 rfl ?_
          refine je_iload2 (pc := 114) d12086_114 rfl ?_
          refine ju_icge (pc := 115) 132 d12086_115 (by decide) (fun c115 => ?_) (fun c115 => ?_)
          · refine ju_incN (pc := 132) (v := nI ((k) + 1)) (lv' := [some _, some _, some _, some _, some _, some _, some _, some _]) d12086_132 rfl (nI_1 (k)) rfl ?_
            refine je_goto (pc := 135) 44 d12086_135 (by decide) ?_
            have gt : gpF S R n L k = true := by
              cases q : gpF S R n L k
              · rw [q] at c104; exact absurd rfl c104
              · rfl
            rw [gt, if_pos rfl] at c104 c115
            have : ∃ q r, xx.1 = some (q, r) := by
              match hx : xx.1, c109 with
              | none, c => exact absurd rfl c
              | some (q, r), _ => exact ⟨q, r, rfl⟩
            obtain ⟨q, r, xe⟩ := this
            rw [xe] at e3 c115 ⊢
            refine kk (some (q, r), some _, some _) _ ⟨k8, l8, e3.ge ?_, fun q' r' hq j hj => by rw [n5]; exact e4 q' r' (xe.trans hq) j hj⟩
            have b1 := e3.1.2.2
            have b2 := cnD_le (2 * S.1.1 + 1) n r
            exact Nat.le_of_not_lt (fun z => c115 (nI_lt z (by omega)))
          · refine je_iload (pc := 118) d12086_118 rfl ?_
            refine ju_istore2 (pc := 120) (lv' := [some _, some _, some _, some _, some _, some _, some _, some _]) d12086_120 rfl rfl ?_
            refine je_aload0 (pc := 121) d12086_121 rfl ?_
            refine ju_getr (pc := 122) (b := 294) d12086_122 jF_12_136 rfl (sK253 H4) (sR253_54 H4) ?_
            refine je_aload0 (pc := 125) d12086_125 rfl ?_
            refine ju_getr (pc := 126) (b := 295) d12086_126 jF_12_139 rfl (sK253 H4) (sR253_55 H4) ?_
            refine ju_calls (pc := 129) (as := [_, _]) d12086_129 jL_12_357 jM_Mo_copies rfl rfl (by exact Nat.le_of_ble_eq_true rfl) (t_Mo_copies (d + 7) (a := 294) (b := 295) (sK294 H4) (sK295 H4) (by decide) (by decide) (by decide)) (fun r129 h129 q129 => ?_)
            obtain ⟨rfl, g11, g12⟩ := q129
            have k10 : mLk h h129 L := k8.fr g11 (fun b hb => by omega) (fun j _ => by rw [g11.2 254 (by omega)]) (k8.2.2.2.of (g11.2 _ (by omega)) (g11.2 _ (by omega)) (g11.2 _ (by omega)) (g11.2 _ (by omega)) (by rw [g11.2 254 (by omega)]) (by rw [g11.2 254 (by omega)]))
            have l10 : ∀ j, j < 9 → h129.2.1 254 j = h.2.1 254 j := fun j hj => by rw [g11.2 254 (by omega)]; exact l8 j hj
            refine ju_incN (pc := 132) (v := nI ((k) + 1)) (lv' := [some _, some _, some _, some _, some _, some _, some _, some _]) d12086_132 rfl (nI_1 (k)) rfl ?_
            refine je_goto (pc := 135) 44 d12086_135 (by decide) ?_
            have gt : gpF S R n L k = true := by
              cases q : gpF S R n L k
              · rw [q] at c104; exact absurd rfl c104
              · rfl
            rw [gt, if_pos rfl] at c104 c115
            rw [gt, if_pos rfl]
            have : ∃ q r, xx.1 = some (q, r) := by
              match hx : xx.1, c109 with
              | none, c => exact absurd rfl c
              | some (q, r), _ => exact ⟨q, r, rfl⟩
            obtain ⟨q0, r0, xe⟩ := this
            rw [xe] at e3 c115
            have b1 := e3.1.2.2
            have b2 := cnD_le (2 * S.1.1 + 1) n r0
            refine kk (some (cnD (2 * S.1.1 + 1) n k, k), some _, some _) _ ⟨k10, l10, e3.lt gt ((nI_ltI (by omega) (by omega)).mp c115), fun q r hq j hj => ?_⟩
            · cases hq
              rw [g12 j (by omega), y4.2 294 (by omega), y2, f2 j hj]
    · obtain ⟨e1, e2, e3, e4⟩ := e
      have H1 := e1.St H
      refine je_iload (pc := 44) d12086_44 rfl ?_
      refine je_iload (pc := 46) d12086_46 rfl ?_
      refine jn_icge (pc := 48) (a := (((2 * S.1.1 + 1) ^ n))) (b := ((2 * S.1.1 + 1) ^ n)) 138 d12086_48 (by decide) (by omega) (by omega) (fun c48 => ?_) (fun c48 => by exfalso; omega)
      refine je_iload2 (pc := 138) d12086_138 rfl ?_
      refine je_iret (pc := 139) d12086_139 rfl ?_
      obtain rfl := ho.u e3.fin
      exact ⟨rfl, e1, e2, e4⟩
set_option maxHeartbeats 2000000 in
theorem t_Mo_push_n (d : Nat) {bc bs : Nat} {h : jx_H} (H : jx_St h) (x y : Int32) (G : ¬ (0 < h.2.1 254 0 ∧ (¬ x < 1 ∧ ¬ 3 < x) ∧ (¬ y < 0 ∧ ¬ 3 < y))) : jx_Tr (d + 10) bc bs 12085 [.ref 253, .int x, .int y] h (fun r h' => r = some (.int (-3)) ∧ h' = h) := by
  refine jx_tr jM_Mo_push rfl rfl (lv := [some (.ref 253), some (.int x), some (.int y), none]) rfl ?_
  refine je_aload0 (pc := 0) d12085_0 rfl ?_
  refine ju_callv (pc := 1) (as := []) d12085_1 jL_12_400 jM_Mo_isStrip rfl (by decide) (sK253 H) rfl (by exact Nat.le_of_ble_eq_true rfl) (t_Mo_isStrip (d + 8) H) (fun r1 h1 q1 => ?_)
  obtain ⟨rfl, e1⟩ := q1
  obtain rfl := e1.symm
  refine jb_ifeq (pc := 4) 31 d12085_4 (by decide) (fun c4 => ?_) (fun c4 => ?_)
  · refine je_bipush (pc := 31) (v := -3) d12085_31 rfl ?_
    refine je_iret (pc := 33) d12085_33 rfl ?_
    exact ⟨rfl, rfl⟩
  · refine je_iload1 (pc := 7) d12085_7 rfl ?_
    refine je_i2l (pc := 8) d12085_8 ?_
    refine je_lconst1 (pc := 9) d12085_9 ?_
    refine je_ldc2 (pc := 10) d12085_10 jK_12_468 ?_
    refine ju_calls (pc := 13) (as := [_, _, _]) d12085_13 jL_12_170 jM_Mo_in rfl rfl (by exact Nat.le_of_ble_eq_true rfl) (t_Mo_in (d + 8) _ _ _) (fun r13 h13 q13 => ?_)
    obtain ⟨rfl, e13⟩ := q13
    obtain rfl := e13.symm
    refine ju_eqi (v := b2 (¬ x < 1 ∧ ¬ 3 < x)) (in_1 (x) (n := 3) (by decide)) ?_
    refine jb_ifeq (pc := 16) 31 d12085_16 (by decide) (fun c16 => ?_) (fun c16 => ?_)
    · refine je_bipush (pc := 31) (v := -3) d12085_31 rfl ?_
      refine je_iret (pc := 33) d12085_33 rfl ?_
      exact ⟨rfl, rfl⟩
    · refine je_iload2 (pc := 19) d12085_19 rfl ?_
      refine je_i2l (pc := 20) d12085_20 ?_
      refine je_lconst0 (pc := 21) d12085_21 ?_
      refine je_ldc2 (pc := 22) d12085_22 jK_12_468 ?_
      refine ju_calls (pc := 25) (as := [_, _, _]) d12085_25 jL_12_170 jM_Mo_in rfl rfl (by exact Nat.le_of_ble_eq_true rfl) (t_Mo_in (d + 8) _ _ _) (fun r25 h25 q25 => ?_)
      obtain ⟨rfl, e25⟩ := q25
      obtain rfl := e25.symm
      refine ju_eqi (v := b2 (¬ y < 0 ∧ ¬ 3 < y)) (in_0 (y) (n := 3) (by decide)) ?_
      refine jb_ifne (pc := 28) 34 d12085_28 (by decide) (fun c28 => absurd c28 (fun q => G ⟨c4, c16, q⟩)) (fun c28 => ?_)
      refine je_bipush (pc := 31) (v := -3) d12085_31 rfl ?_
      refine je_iret (pc := 33) d12085_33 rfl ?_
      exact ⟨rfl, rfl⟩
set_option maxHeartbeats 2000000 in
theorem t_Mo_push (d : Nat) {bc bs : Nat} {h : jx_H} {S : MS} {R : Option MR} {L : ML} {nn : Nat} (H : jx_St h) (C : mLaw h S R) (wS : wfS S) (h0 : 0 < S.1.1) (hmi : S.1.1 ≤ 10) (hL : mLa h.2.1 L) (hN : L.2.2.2.2.2 = nI nn) {n y : Nat} {o : Option (Nat × Nat)} (h1 : 1 ≤ n) (h3 : n ≤ 3) (hy : y ≤ 3) (hnn : nn + n < 998) (ho : PB S R n L o) : jx_Tr (d + 10) bc bs 12085 [.ref 253, .int (nI n), .int (nI y)] h (fun r h' => r = some (.int (psV S n y o)) ∧ mLk h h' L ∧ ∀ j, j < 9 → h'.2.1 254 j = h.2.1 254 j) := by
  refine jx_tr jM_Mo_push rfl rfl (lv := [some (.ref 253), some (.int (nI n)), some (.int (nI y)), none]) rfl ?_
  refine je_aload0 (pc := 0) d12085_0 rfl ?_
  refine ju_callv (pc := 1) (as := []) d12085_1 jL_12_400 jM_Mo_isStrip rfl (by decide) (sK253 H) rfl (by exact Nat.le_of_ble_eq_true rfl) (t_Mo_isStrip (d + 8) H) (fun r1 h1 q1 => ?_)
  obtain ⟨rfl, e1⟩ := q1
  obtain rfl := e1.symm
  refine jb_ifeq (pc := 4) 31 d12085_4 (by decide) (fun c4 => absurd c4 (fun q => q (by rw [C.1.1.1]; exact nI_lt (a := 0) h0 (by omega)))) (fun c4 => ?_)
  refine je_iload1 (pc := 7) d12085_7 rfl ?_
  refine je_i2l (pc := 8) d12085_8 ?_
  refine je_lconst1 (pc := 9) d12085_9 ?_
  refine je_ldc2 (pc := 10) d12085_10 jK_12_468 ?_
  refine ju_calls (pc := 13) (as := [_, _, _]) d12085_13 jL_12_170 jM_Mo_in rfl rfl (by exact Nat.le_of_ble_eq_true rfl) (t_Mo_in (d + 8) _ _ _) (fun r13 h13 q13 => ?_)
  obtain ⟨rfl, e13⟩ := q13
  obtain rfl := e13.symm
  refine ju_eqi (v := b2 (¬ nI n < 1 ∧ ¬ 3 < nI n)) (in_1 (nI n) (n := 3) (by decide)) ?_
  refine jb_ifeq (pc := 16) 31 d12085_16 (by decide) (fun c16 => absurd c16 (fun q => q ⟨nI_nlt (b := 1) h1 (by omega), nI_nlt (a := 3) (b := n) h3 (by decide)⟩)) (fun c16 => ?_)
  refine je_iload2 (pc := 19) d12085_19 rfl ?_
  refine je_i2l (pc := 20) d12085_20 ?_
  refine je_lconst0 (pc := 21) d12085_21 ?_
  refine je_ldc2 (pc := 22) d12085_22 jK_12_468 ?_
  refine ju_calls (pc := 25) (as := [_, _, _]) d12085_25 jL_12_170 jM_Mo_in rfl rfl (by exact Nat.le_of_ble_eq_true rfl) (t_Mo_in (d + 8) _ _ _) (fun r25 h25 q25 => ?_)
  obtain ⟨rfl, e25⟩ := q25
  obtain rfl := e25.symm
  refine ju_eqi (v := b2 (¬ nI y < 0 ∧ ¬ 3 < nI y)) (in_0 (nI y) (n := 3) (by decide)) ?_
  refine jb_ifne (pc := 28) 34 d12085_28 (by decide) (fun c28 => ?_) (fun c28 => absurd c28 (fun q => absurd ⟨nI_pos (by omega), nI_nlt (a := 3) (b := y) hy (by decide)⟩ q))
  refine je_aload0 (pc := 34) d12085_34 rfl ?_
  refine je_iload1 (pc := 35) d12085_35 rfl ?_
  refine ju_callv (pc := 36) (as := [_]) d12085_36 jL_12_500 jM_Mo_findsPush rfl (by decide) (sK253 H) rfl (by exact Nat.le_of_ble_eq_true rfl) (t_Mo_findsPush d H C wS h0 hmi hL hN h1 h3 hnn ho) (fun r36 h36 q36 => ?_)
  obtain ⟨rfl, k1, k2, f2⟩ := q36
  have H2 := k1.St H
  refine ju_istore3 (pc := 39) (lv' := [some _, some _, some _, some _]) d12085_39 rfl rfl ?_
  refine je_iload3 (pc := 40) d12085_40 rfl ?_
  refine je_iconst (pc := 41) (v := -1) d12085_41 rfl ?_
  refine je_icne (pc := 42) 48 d12085_42 (by decide) (fun c42 => ?_) (fun c42 => ?_)
  · refine je_iload2 (pc := 48) d12085_48 rfl ?_
    refine jn_ifne (pc := 49) (a := (y)) 56 d12085_49 (by decide) (by omega) (fun c49 => ?_) (fun c49 => ?_)
    · refine je_iload2 (pc := 56) d12085_56 rfl ?_
      refine je_iload1 (pc := 57) d12085_57 rfl ?_
      refine jn_icgt (pc := 58) (a := (y)) (b := (n)) 72 d12085_58 (by decide) (by omega) (by omega) (fun c58 => ?_) (fun c58 => ?_)
      · refine je_bipush (pc := 72) (v := -2) d12085_72 rfl ?_
        refine je_iret (pc := 74) d12085_74 rfl ?_
        exact ⟨by rw [psV_gt c58 c49], k1, k2⟩
      · refine je_aload0 (pc := 61) d12085_61 rfl ?_
        refine ju_getr (pc := 62) (b := 295) d12085_62 jF_12_139 rfl (sK253 H2) (sR253_55 H2) ?_
        refine je_iload2 (pc := 65) d12085_65 rfl ?_
        refine je_iconst (pc := 66) (v := 1) d12085_66 rfl ?_
        refine je_isub (pc := 67) d12085_67 ?_
        refine ju_eqi (v := nI ((y) - 1)) (pk_sub (a := (y)) (b := 1) (by omega)) ?_
        refine ju_iald (pc := 68) (jn := ((y) - 1)) d12085_68 (sK295 H2) (vp_in_nI (by omega) (by decide)) (nI_clamp (by omega)) ?_
        refine je_goto (pc := 69) 74 d12085_69 (by decide) ?_
        refine je_iret (pc := 74) d12085_74 rfl ?_
        match o, c42, f2 with
        | none, c, _ => exact absurd rfl c
        | some (q, r), _, f2 =>
          refine ⟨?_, k1, k2⟩
          show _ = some (Value.int (if y = 0 then nI q else if n < y then (-2 : Int32) else _))
          rw [if_neg c49, if_neg (by omega), f2 q r rfl (y - 1) (by omega), ← chV_p]
          rfl
    · refine je_iload3 (pc := 52) d12085_52 rfl ?_
      refine je_goto (pc := 53) 74 d12085_53 (by decide) ?_
      refine je_iret (pc := 74) d12085_74 rfl ?_
      match o, c42 with
      | none, c => exact absurd rfl c
      | some (q, r), _ => exact ⟨by show some (Value.int (nI q)) = some (.int (if y = 0 then nI q else _)); rw [if_pos c49], k1, k2⟩
  · refine je_bipush (pc := 45) (v := -2) d12085_45 rfl ?_
    refine je_iret (pc := 47) d12085_47 rfl ?_
    match o, c42, ho with
    | none, _, _ => exact ⟨rfl, k1, k2⟩
    | some (q, r), c, ho => exact absurd c (fun z => nI_pos (n := q) (by have := cnD_le (2 * S.1.1 + 1) n r; have := ho.1.2.2; omega) (show nI q < 0 by rw [show nI q = -1 from z]; decide))
theorem op_push (x y : Int32) : jo Inv 27 12085 [.int x, .int y] := jo_look (fun n h t nr rs X Y hn q => by
  obtain ⟨s, r1, r2, r3, r4, -⟩ := q.cl
  obtain ⟨b1, b2, -⟩ := q.mi
  obtain ⟨-, -, -, -, ⟨-, rl, -⟩, -, ⟨wS, wl, -⟩, -⟩ := id q
  by_cases G : 0 < X.1.1.1 ∧ (¬ x < 1 ∧ ¬ 3 < x) ∧ (¬ y < 0 ∧ ¬ 3 < y)
  · obtain ⟨G1, ⟨G2, G3⟩, G4⟩ := G
    obtain ⟨i, hi, rfl⟩ := z_of (x := x) (n := 3) ⟨fun c => G2 (Int32.lt_trans c (by decide)), G3⟩ (by decide)
    obtain ⟨k, hk, rfl⟩ := z_of (n := 3) G4 (by decide)
    have hi1 : 1 ≤ i := Nat.le_of_not_lt (fun c => G2 (nI_lt (b := 1) c (by decide)))
    obtain ⟨R, C1, C2⟩ := q.law G1
    obtain ⟨-, -, -, N, hN, eN⟩ := id wl
    obtain ⟨o, eo⟩ := PBt.ex X.1 R i X.2.1 ((2 * X.1.1.1 + 1) ^ i)
    refine ⟨_, (t_Db_push 188 q.1 C1 wS G1 rl eN r1 r3 r4 b1 hi1 hi hk (by omega) wl (by omega) eo.fin).mono (fun r h1 e => ⟨e.1, e.2.mo (fun b hb => by omega)⟩), fun h1 S1 g1 m1 => (t_Mo_push 189 S1 (C2 h1 g1) wS G1 b1 m1.la eN hi1 hi hk (by omega) eo.fin).mono (fun r h2 e => ⟨e.1, e.2.1.fin e.2.2 m1⟩)⟩
  · have g0 : ∀ k : Nat, k ≤ 10 → (0 < nI k ↔ 0 < k) := fun k hk => nI_ltI (a := 0) (by decide) (by omega)
    exact ⟨-3, (t_Db_push_n 188 q.1 r1 r3 x y (by rw [r4.1.1]; exact fun c => G ⟨(g0 _ b1).mp c.1, ⟨c.2.1, c.2.2.1⟩, c.2.2.2⟩)).mono (fun r h1 e => ⟨e.1, by rw [e.2]; exact fC.rf⟩), fun h1 S1 g1 m1 => (t_Mo_push_n 189 S1 x y (by rw [m1.st.1.1]; exact fun c => G ⟨(g0 _ b1).mp c.1, c.2⟩)).mono (fun r h2 e => ⟨e.1, by rw [e.2]; exact ⟨fM.rf, m1⟩⟩)⟩)
