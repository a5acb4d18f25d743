/-! a rule told: the class takes it -/
theorem Rl_k {h : jx_H} (H : jx_St h) : ∀ {k : Nat}, k < 6 → jx_Rl h (125 + 6 * k)
  | 0, _ => ⟨sK125 H, ⟨sK126 H, sR125_0 H⟩, ⟨sK127 H, sR125_2 H⟩, ⟨sK128 H, sR125_3 H⟩, ⟨sK129 H, sR125_4 H⟩, sK130 H, sR125_6 H⟩
  | 1, _ => ⟨sK131 H, ⟨sK132 H, sR131_0 H⟩, ⟨sK133 H, sR131_2 H⟩, ⟨sK134 H, sR131_3 H⟩, ⟨sK135 H, sR131_4 H⟩, sK136 H, sR131_6 H⟩
  | 2, _ => ⟨sK137 H, ⟨sK138 H, sR137_0 H⟩, ⟨sK139 H, sR137_2 H⟩, ⟨sK140 H, sR137_3 H⟩, ⟨sK141 H, sR137_4 H⟩, sK142 H, sR137_6 H⟩
  | 3, _ => ⟨sK143 H, ⟨sK144 H, sR143_0 H⟩, ⟨sK145 H, sR143_2 H⟩, ⟨sK146 H, sR143_3 H⟩, ⟨sK147 H, sR143_4 H⟩, sK148 H, sR143_6 H⟩
  | 4, _ => ⟨sK149 H, ⟨sK150 H, sR149_0 H⟩, ⟨sK151 H, sR149_2 H⟩, ⟨sK152 H, sR149_3 H⟩, ⟨sK153 H, sR149_4 H⟩, sK154 H, sR149_6 H⟩
  | 5, _ => ⟨sK155 H, ⟨sK156 H, sR155_0 H⟩, ⟨sK157 H, sR155_2 H⟩, ⟨sK158 H, sR155_3 H⟩, ⟨sK159 H, sR155_4 H⟩, sK160 H, sR155_6 H⟩
  | n + 6, h => absurd h (by omega)
def fR (nr : Nat) (h h' : jx_H) : Prop := fC (fun b => b = 1 ∨ b = 2 ∨ b = 18 ∨ 125 + 6 * nr ≤ b ∧ b ≤ 125 + 6 * nr + 4) (jx_wR h 18 1 (some (125 + 6 * nr))) h'
theorem rul_rR {h h' : jx_H} {a N : Nat} {T : Nat → Int32} {X : RC} (B : rcI h a N T X.2.1) (R : rkS h a X) (f : X.2.1.1 = 0) (e : ∀ b, a ≤ b → b ≤ a + 4 → h'.2.1 b = h.2.1 b) : rR h'.2.1 a (rulR X) := by
  obtain ⟨c1, c2, c3, c4⟩ := B.2.2.2.2.2 f
  obtain ⟨r1, r2⟩ := R.2 f
  unfold rR
  rw [e a (by omega) (by omega), e (a + 1) (by omega) (by omega), e (a + 2) (by omega) (by omega), e (a + 3) (by omega) (by omega), e (a + 4) (by omega) (by omega)]
  exact ⟨c3, r1, c4, r2⟩
set_option maxHeartbeats 4000000 in
theorem t_Db_rule (d : Nat) {bc bs : Nat} {h : jx_H} {N nr : Nat} {T : Nat → Int32} (H : jx_St h) (eT : h.2.1 3 = T) (hs : h.2.1 2 1 = nI N) (hN : N ≤ 400) (hT : bytT T N) (hr : h.2.1 1 4 = nI nr) (hnr : nr < 6) : jx_Tr (d + 32) bc bs 5 [.ref 1] h (fun r h' => jx_St h' ∧ fR nr h h' ∧ h'.2.1 2 1 = 0 ∧ ((itR T N 13).2.1.1 = 0 → r = some (.int (nI nr)) ∧ h'.2.1 1 4 = nI (nr + 1) ∧ rR h'.2.1 (125 + 6 * nr) (rulR (itR T N 13))) ∧ (¬ (itR T N 13).2.1.1 = 0 → r = some (.int (-2 - (itR T N 13).2.1.1)) ∧ h'.2.1 1 4 = nI nr)) := by
  refine jx_tr jM_Db_rule rfl rfl (lv := [some (.ref 1)]) rfl ?_
  have RL := Rl_k H hnr
  have rd := t_Rr_read d (bc := 0) (bs := 0) (a := (125 + 6 * nr)) (N := N) (T := T) H RL eT hs (by omega) (by omega) hN hT
  generalize itR T N 13 = X at rd ⊢
  refine je_aload0 (pc := 0) d5_0 rfl ?_
  refine ju_geti (pc := 1) d5_1 jF_0_111 rfl (sK1 H) ?_
  refine ju_eqi (v := nI nr) hr ?_
  refine je_bipush (pc := 4) (v := 6) d5_4 rfl ?_
  refine jn_iclt (pc := 6) (a := (nr)) (b := 6) 11 d5_6 (by decide) (by omega) (by omega) (fun c6 => ?_) (fun c6 => by exfalso; omega)
  refine je_aload0 (pc := 11) d5_11 rfl ?_
  refine ju_getr (pc := 12) (b := 18) d5_12 jF_0_28 rfl (sK1 H) (sR1_2 H) ?_
  refine je_aload0 (pc := 15) d5_15 rfl ?_
  refine ju_getr (pc := 16) (b := 25) d5_16 jF_0_34 rfl (sK1 H) (sR1_3 H) ?_
  refine je_aload0 (pc := 19) d5_19 rfl ?_
  refine ju_geti (pc := 20) d5_20 jF_0_111 rfl (sK1 H) ?_
  refine ju_eqi (v := nI nr) hr ?_
  refine je_aald (pc := 23) d5_23 (by decide) (sK25 H) (vp_in_nI (by omega) (by decide)) (v := .ref (125 + 6 * nr)) (r25 H (by omega)) ?_
  refine ju_callv (pc := 24) (as := [_]) d5_24 jL_0_114 jM_Rr_read rfl (by decide) (sK18 H) rfl (by exact Nat.le_of_ble_eq_true rfl) rd (fun r24 h24 q24 => ?_)
  obtain ⟨rfl, G0, B, R⟩ := q24
  have H4 := B.1.1
  have r1 : h24.2.1 1 = h.2.1 1 := (G0.2 1 (by omega))
  have fl : (jx_wI h24 2 1 0).2.1 2 5 = X.2.1.1 := by rw [wI_at, jx_up_ne _ _ (by decide)]; exact B.2.2.1
  refine je_aload0 (pc := 27) d5_27 rfl ?_
  refine ju_getr (pc := 28) (b := 2) d5_28 jF_0_10 rfl (sK1 H4) (sR1_0 H4) ?_
  refine je_iconst (pc := 31) (v := 0) d5_31 rfl ?_
  refine ju_puti (pc := 32) d5_32 jF_0_84 rfl (sK2 H4) ?_
  refine je_aload0 (pc := 35) d5_35 rfl ?_
  refine ju_getr (pc := 36) (b := 2) d5_36 jF_0_10 rfl (sK1 H4.wI) (sR1_0 H4.wI) ?_
  refine ju_geti (pc := 39) d5_39 jF_0_96 rfl (sK2 H4.wI) ?_
  refine ju_eqi (v := X.2.1.1) fl ?_
  refine je_ifeq (pc := 42) 56 d5_42 (by decide) (fun c42 => ?_) (fun c42 => ?_)
  · refine je_aload0 (pc := 56) d5_56 rfl ?_
    refine je_dup (pc := 57) d5_57 rfl ?_
    refine ju_geti (pc := 58) d5_58 jF_0_111 rfl (sK1 H4.wI) ?_
    refine ju_eqi (v := nI nr) (by rw [wI_ne _ _ _ (by decide), r1]; exact hr) ?_
    refine je_iconst (pc := 61) (v := 1) d5_61 rfl ?_
    refine je_iadd (pc := 62) d5_62 ?_
    refine ju_eqi (v := nI ((nr) + 1)) (nI_add (nr) 1) ?_
    refine ju_puti (pc := 63) d5_63 jF_0_111 rfl (sK1 H4.wI) ?_
    refine je_aload0 (pc := 66) d5_66 rfl ?_
    refine ju_geti (pc := 67) d5_67 jF_0_111 rfl (sK1 H4.wI.wI) ?_
    refine ju_eqi (v := nI (nr + 1)) (by rw [wI_at, jx_up_self]) ?_
    refine je_iconst (pc := 70) (v := 1) d5_70 rfl ?_
    refine je_isub (pc := 71) d5_71 ?_
    refine ju_eqi (v := nI ((nr + 1) - 1)) (pk_sub (a := (nr + 1)) (b := 1) (by omega)) ?_
    refine je_iret (pc := 72) d5_72 rfl ?_
    refine ⟨H4.wI.wI, ((G0.mo (fun b z => by omega)).wI (by omega)).wI (by omega), ?_, fun f => ⟨rfl, ?_, ?_⟩, fun z => absurd c42 z⟩
    · rw [wI_ne _ _ _ (by decide), wI_at, jx_up_self]
    · rw [wI_at, jx_up_self]
    · exact rul_rR B R f (fun b b1 b2 => by rw [wI_ne _ _ _ (by omega), wI_ne _ _ _ (by omega)])
  · refine je_bipush (pc := 45) (v := -2) d5_45 rfl ?_
    refine je_aload0 (pc := 47) d5_47 rfl ?_
    refine ju_getr (pc := 48) (b := 2) d5_48 jF_0_10 rfl (sK1 H4.wI) (sR1_0 H4.wI) ?_
    refine ju_geti (pc := 51) d5_51 jF_0_96 rfl (sK2 H4.wI) ?_
    refine ju_eqi (v := X.2.1.1) fl ?_
    refine je_isub (pc := 54) d5_54 ?_
    refine je_iret (pc := 55) d5_55 rfl ?_
    refine ⟨H4.wI, (G0.mo (fun b z => by omega)).wI (by omega), by rw [wI_at, jx_up_self], fun z => absurd z c42, fun _ => ⟨rfl, ?_⟩⟩
    rw [wI_ne _ _ _ (by decide), r1]; exact hr
set_option maxHeartbeats 2000000 in
theorem t_Db_rule_n (d : Nat) {bc bs : Nat} {h : jx_H} (H : jx_St h) (hr : h.2.1 1 4 = 6) : jx_Tr (d + 1) bc bs 5 [.ref 1] h (fun r h' => r = some (.int (-1)) ∧ h' = h) := by
  refine jx_tr jM_Db_rule rfl rfl (lv := [some (.ref 1)]) rfl ?_
  refine je_aload0 (pc := 0) d5_0 rfl ?_
  refine ju_geti (pc := 1) d5_1 jF_0_111 rfl (sK1 H) ?_
  refine ju_eqi (v := nI 6) hr ?_
  refine je_bipush (pc := 4) (v := 6) d5_4 rfl ?_
  refine jn_iclt (pc := 6) (a := (6)) (b := 6) 11 d5_6 (by decide) (by omega) (by omega) (fun c6 => by exfalso; omega) (fun c6 => ?_)
  refine je_iconst (pc := 9) (v := -1) d5_9 rfl ?_
  refine je_iret (pc := 10) d5_10 rfl ?_
  exact ⟨rfl, rfl⟩
