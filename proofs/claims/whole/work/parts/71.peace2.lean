/-! peace: the class, its miles -/
theorem cnt_0 {p : Nat → Bool} : ∀ {n : Nat}, fa_cnt p n = 0 ↔ ∀ k, k < n → p k = false
  | 0 => ⟨fun _ k hk => absurd hk (Nat.not_lt_zero k), fun _ => rfl⟩
  | n + 1 => by
    cases c : p n
    · rw [fa_cnt_no c, cnt_0]
      refine ⟨fun h k hk => ?_, fun h k hk => h k (by omega)⟩
      by_cases z : k = n
      · rw [z]; exact c
      · exact h k (by omega)
    · rw [fa_cnt_yes c]
      exact ⟨fun h => absurd h (by omega), fun h => by have := h n (by omega); rw [c] at this; exact absurd this (by decide)⟩
theorem cn_0 {S : MS} {l l' : Nat → Int32} {n : Nat} : cnN S l l' n = 0 ↔ ∀ v, v < n → sdM S l v = sdM S l' v := by
  unfold cnN
  rw [cnt_0]
  exact ⟨fun h v hv => Decidable.of_not_not (of_decide_eq_false (h v hv)), fun h v hv => decide_eq_false (fun z => z (h v hv))⟩
theorem crn0 {S : MS} {l l' : Nat → Int32} {n : Nat} : crN S l l' n = 0 ↔ cnN S l l' n = 0 := by
  rw [cn_0]
  refine ⟨fun h v hv => ?_, fun h => Nat.eq_of_testBit_eq (fun i => ?_)⟩
  · have := crN_bit S l l' v n
    rw [h, Nat.zero_testBit] at this
    exact Decidable.of_not_not (fun z => absurd (of_decide_eq_false this.symm) (fun y => y ⟨hv, z⟩))
  · rw [crN_bit, Nat.zero_testBit]
    exact decide_eq_false (fun z => z.2 (h i z.1))
theorem cr_lt (S : MS) (l l' : Nat → Int32) (n : Nat) : crN S l l' n < 2 ^ n := Nat.lt_pow_two_of_testBit _ (fun i hi => by rw [crN_bit]; exact decide_eq_false (fun z => by omega))
theorem ct_0 {S : MS} {R : Option MR} {L : ML} : ∀ {n : Nat}, ctF S R L n = 0 ↔ pcF S R L n
  | 0 => ⟨fun _ _ _ k hk => absurd hk (Nat.not_lt_zero k), fun _ => rfl⟩
  | n + 1 => by
    rw [ctF]
    have ih := ct_0 (S := S) (R := R) (L := L) (n := n)
    constructor
    · intro h v hv k hk
      by_cases z : k = n
      · subst z; exact cn_0.mp (by omega) v hv
      · exact ih.mp (by omega) v hv k (by omega)
    · intro h
      rw [ih.mpr (fun v hv k hk => h v hv k (by omega)), cn_0.mpr (fun v hv => h v hv n (by omega))]
theorem ct_mono {S : MS} {R : Option MR} {L : ML} {k : Nat} : ∀ {n : Nat}, k ≤ n → ctF S R L k ≤ ctF S R L n
  | 0, h => by rw [show k = 0 by omega]; exact Nat.le_refl _
  | n + 1, h => by
    by_cases z : k = n + 1
    · rw [z]; exact Nat.le_refl _
    · exact Nat.le_trans (ct_mono (show k ≤ n by omega)) (by rw [ctF]; omega)
abbrev clm (S : MS) (R : Option MR) (L : ML) (n a z : Nat) : Prop := ctF S R (bkL (otB S.1.1 a z) L) n = 0
/-- what is known of calm -/
def cOk (S : MS) (R : Option MR) (L : ML) (n : Nat) (h : jx_H) : Prop := ∀ a z, a < z → z ≤ S.1.1 → h.2.1 78 (a * 11 + z) = 0 ∨ (h.2.1 78 (a * 11 + z) = 1 ∧ clm S R L n a z) ∨ (h.2.1 78 (a * 11 + z) = 2 ∧ ¬ clm S R L n a z)
theorem cOk.fr {S : MS} {R : Option MR} {L : ML} {n : Nat} {h h' : jx_H} (q : cOk S R L n h) (e : h'.2.1 78 = h.2.1 78) : cOk S R L n h' := fun a z h1 h2 => by rw [e]; exact q a z h1 h2
theorem cOk.put {S : MS} {R : Option MR} {L : ML} {n a z : Nat} {h : jx_H} {v : Int32} (q : cOk S R L n h) (hmi : S.1.1 ≤ 10) (hz : z ≤ S.1.1) (e : (v = 1 ∧ clm S R L n a z) ∨ (v = 2 ∧ ¬ clm S R L n a z)) : cOk S R L n (jx_wI h 78 (a * 11 + z) v) := fun a' z' h1 h2 => by
  rw [wI_at]
  by_cases c : a' * 11 + z' = a * 11 + z
  · have e1 : a' = a := by omega
    have e2 : z' = z := by omega
    subst e1 e2
    rw [jx_up_self]
    exact Or.inr e
  · rw [jx_up_ne _ _ c]; exact q a' z' h1 h2
theorem ot_i : ∀ mi, mi < 11 → ∀ e, e < mi + 1 → ∀ b, b < e → (((1 : Int32) <<< (nI mi &&& 31)) - 1) &&& ((((1 : Int32) <<< (nI e &&& 31)) - ((1 : Int32) <<< (nI b &&& 31))) ^^^ -1) = nI (otB mi b e) := by decide +kernel
set_option maxHeartbeats 8000000 in
theorem t_Ol_isCalm (d : Nat) {bc bs : Nat} {h : jx_H} {S : MS} {R : Option MR} {L : ML} {nn : Nat} (H : jx_St h) (C : cLaw h S R) (wS : wfS S) (h0 : 0 < S.1.1) (hL : rL h.2.1 40 L) (hN : L.2.2.2.2.2 = nI nn) {a z n : Nat} (hmi : S.1.1 ≤ 10) (haz : a < z) (hz : z ≤ S.1.1) (hn : n ≤ 60) (hnn : nn + n < 998) (ca : cOk S R L n h) : jx_Tr (d + 5) bc bs 9008 [.ref 67, .ref 40, .int (nI a), .int (nI z), .int (nI n)] h (fun r h' => r = some (.int (b2 (clm S R L n a z))) ∧ fC (fun b => b = 65 ∨ 68 ≤ b ∧ b ≤ 72 ∨ b = 78) h h' ∧ cOk S R L n h') := by
  refine jx_tr jM_Ol_isCalm rfl rfl (lv := [some (.ref 67), some (.ref 40), some (.int (nI a)), some (.int (nI z)), some (.int (nI n)), none, none, none]) rfl ?_
  obtain ⟨s, c1, c2, c3, c4, -⟩ := id C
  refine je_iload2 (pc := 0) d9008_0 rfl ?_
  refine je_bipush (pc := 1) (v := 11) d9008_1 rfl ?_
  refine je_imul (pc := 3) d9008_3 ?_
  refine ju_eqi (v := nI ((a) * 11)) (pk_mul (a) 11) ?_
  refine je_iload3 (pc := 4) d9008_4 rfl ?_
  refine je_iadd (pc := 5) d9008_5 ?_
  refine ju_eqi (v := nI (((a) * 11) + (z))) (nI_add ((a) * 11) (z)) ?_
  refine ju_istore (pc := 6) (lv' := [some _, some _, some _, some _, some _, some _, none, none]) d9008_6 rfl rfl ?_
  refine je_aload0 (pc := 8) d9008_8 rfl ?_
  refine ju_getr (pc := 9) (b := 78) d9008_9 jF_9_21 rfl (sK67 H) (sR67_3 H) ?_
  refine je_iload (pc := 12) d9008_12 rfl ?_
  refine ju_iald (pc := 14) (jn := (((a) * 11) + (z))) d9008_14 (sK78 H) (vp_in_nI (by omega) (by decide)) (nI_clamp (by omega)) ?_
  refine je_ifne (pc := 15) 112 d9008_15 (by decide) (fun c15 => ?_) (fun c15 => ?_)
  · refine je_aload0 (pc := 112) d9008_112 rfl ?_
    refine ju_getr (pc := 113) (b := 78) d9008_113 jF_9_21 rfl (sK67 H) (sR67_3 H) ?_
    refine je_iload (pc := 116) d9008_116 rfl ?_
    refine ju_iald (pc := 118) (jn := (((a) * 11) + (z))) d9008_118 (sK78 H) (vp_in_nI (by omega) (by decide)) (nI_clamp (by omega)) ?_
    refine je_iconst (pc := 119) (v := 1) d9008_119 rfl ?_
    refine je_icne (pc := 120) 127 d9008_120 (by decide) (fun c120 => ?_) (fun c120 => ?_)
    · refine je_iconst (pc := 127) (v := 0) d9008_127 rfl ?_
      refine je_zret (pc := 128) d9008_128 rfl (by decide) ?_
      exact ⟨by rw [b2_f (fun q => (ca a z haz hz).elim (fun y => c15 y) (fun y => y.elim (fun y => c120 y.1) (fun y => y.2 q)))], fC.rf, ca⟩
    · refine je_iconst (pc := 123) (v := 1) d9008_123 rfl ?_
      refine je_goto (pc := 124) 128 d9008_124 (by decide) ?_
      refine je_zret (pc := 128) d9008_128 rfl (by decide) ?_
      exact ⟨by rw [b2_t ((ca a z haz hz).elim (fun y => absurd y c15) (fun y => y.elim (fun y => y.2) (fun y => absurd (y.1.symm.trans c120) (by decide))))], fC.rf, ca⟩
  · refine je_aload0 (pc := 18) d9008_18 rfl ?_
    refine ju_getr (pc := 19) (b := 68) d9008_19 jF_9_12 rfl (sK67 H) (sR67_1 H) ?_
    refine je_aload1 (pc := 22) d9008_22 rfl ?_
    refine ju_callv (pc := 23) (as := [_]) d9008_23 jL_9_29 jM_La_copyFrom rfl (by decide) (sK68 H) rfl (by exact Nat.le_of_ble_eq_true rfl) (t_La_copyFrom (d + 2) (a := 68) (b := 40) (sL68 H) (sL40 H) (by decide)) (fun r23 h23 q23 => ?_)
    obtain ⟨rfl, f1, f2⟩ := q23
    have H0 := f1.St H
    have L0 := f2 L hL
    have C0 := C.fr f1 (fun b hb => olA (by omega))
    clear c1 c2 c3 c4
    obtain ⟨s, c1, c2, c3, c4, -⟩ := id C0
    refine je_aload0 (pc := 26) d9008_26 rfl ?_
    refine ju_getr (pc := 27) (b := 68) d9008_27 jF_9_12 rfl (sK67 H0) (sR67_1 H0) ?_
    refine je_iconst (pc := 30) (v := 1) d9008_30 rfl ?_
    refine je_aload0 (pc := 31) d9008_31 rfl ?_
    refine ju_getr (pc := 32) (b := 51) d9008_32 jF_9_25 rfl (sK67 H0) (sR67_0 H0) ?_
    refine ju_getr (pc := 35) (b := s) d9008_35 jF_9_64 rfl (sK51 H0) c1 ?_
    refine ju_geti (pc := 38) d9008_38 jF_9_82 rfl c3.1.1 ?_
    refine ju_eqi (v := nI S.1.1) c4.1.1 ?_
    refine je_ishl (pc := 41) d9008_41 ?_
    refine je_iconst (pc := 42) (v := 1) d9008_42 rfl ?_
    refine je_isub (pc := 43) d9008_43 ?_
    refine je_iconst (pc := 44) (v := 1) d9008_44 rfl ?_
    refine je_iload3 (pc := 45) d9008_45 rfl ?_
    refine je_ishl (pc := 46) d9008_46 ?_
    refine je_iconst (pc := 47) (v := 1) d9008_47 rfl ?_
    refine je_iload2 (pc := 48) d9008_48 rfl ?_
    refine je_ishl (pc := 49) d9008_49 ?_
    refine je_isub (pc := 50) d9008_50 ?_
    refine je_iconst (pc := 51) (v := -1) d9008_51 rfl ?_
    refine je_ixor (pc := 52) d9008_52 ?_
    refine je_iand (pc := 53) d9008_53 ?_
    refine ju_eqi (v := nI (otB S.1.1 a z)) (ot_i _ (by omega) _ (by omega) _ haz) ?_
    refine ju_puti (pc := 54) d9008_54 jF_9_61 rfl (sK68 H0) ?_
    refine je_iconst (pc := 57) (v := 0) d9008_57 rfl ?_
    refine ju_istore (pc := 58) (lv' := [some _, some _, some _, some _, some _, some _, some _, none]) d9008_58 rfl rfl ?_
    refine je_iconst (pc := 60) (v := 0) d9008_60 rfl ?_
    refine ju_istore (pc := 61) (lv' := [some _, some _, some _, some _, some _, some _, some _, some _]) d9008_61 rfl rfl ?_
    refine je_loop (σ := Unit) (n) (fun k xx => [some (.ref 67), some (.ref 40), some (.int (nI a)), some (.int (nI z)), some (.int (nI n)), some (.int (nI (a * 11 + z))), some (.int 0), some (.int (nI k))]) (fun k _ h' => fC (fun b => b = 65 ∨ 68 ≤ b ∧ b ≤ 72) h h' ∧ rL h'.2.1 68 (nitF S R k (bkL (otB S.1.1 a z) L)) ∧ ctF S R (bkL (otB S.1.1 a z) L) k = 0) (fun k xx h' hk e kk => ?_) (fun xx h' e => ?_) (0) () _ (by omega) ⟨(f1.mo (fun b hb => by omega)).wI (by omega), L0.wb, rfl⟩
    · obtain ⟨e1, e2, e3⟩ := e
      have H1 := e1.St H
      have C1 := C.fr e1 (fun b hb => olA (by omega))
      have ca1 : cOk S R L n h' := ca.fr (e1.2 78 (by omega))
      refine je_iload (pc := 63) d9008_63 rfl ?_
      refine je_iload (pc := 65) d9008_65 rfl ?_
      refine jn_icge (pc := 67) (a := (k)) (b := (n)) 95 d9008_67 (by decide) (by omega) (by omega) (fun c67 => by exfalso; omega) (fun c67 => ?_)
      refine je_iload (pc := 70) d9008_70 rfl ?_
      refine jn_ifne (pc := 72) (a := 0) 95 d9008_72 (by decide) (by omega) (fun c72 => by exfalso; omega) (fun c72 => ?_)
      refine je_aload0 (pc := 75) d9008_75 rfl ?_
      refine ju_getr (pc := 76) (b := 51) d9008_76 jF_9_25 rfl (sK67 H1) (sR67_0 H1) ?_
      refine je_aload0 (pc := 79) d9008_79 rfl ?_
      refine ju_getr (pc := 80) (b := 68) d9008_80 jF_9_12 rfl (sK67 H1) (sR67_1 H1) ?_
      refine je_iconst (pc := 83) (v := -1) d9008_83 rfl ?_
      refine ju_callv (pc := 84) (as := [_, _]) d9008_84 jL_9_35 jM_Lw_pass rfl (by decide) (sK51 H1) rfl (by exact Nat.le_of_ble_eq_true rfl) (t_Lw_pass d (a := 68) H1 C1 wS h0 (Or.inr (Or.inl rfl)) e2 (nn := nn + k) (nit_n (L := (bkL (otB S.1.1 a z) L)) hN k) (by omega) (-1) _ rfl) (fun r84 h84 q84 => ?_)
      obtain ⟨rfl, f3, f4⟩ := q84
      rw [if_pos rfl] at f4
      have H2 := f3.St H1
      refine ju_eqi (v := nI (crN S (nitF S R k (bkL (otB S.1.1 a z) L)).1 (nitF S R (k + 1) (bkL (otB S.1.1 a z) L)).1 S.1.2.1)) (by rw [if_pos rfl]; rfl) ?_
      refine ju_istore (pc := 87) (lv' := [some _, some _, some _, some _, some _, some _, some _, some _]) d9008_87 rfl rfl ?_
      refine ju_incN (pc := 89) (v := nI ((k) + 1)) (lv' := [some _, some _, some _, some _, some _, some _, some _, some _]) d9008_89 rfl (nI_1 (k)) rfl ?_
      refine je_goto (pc := 92) 63 d9008_92 (by decide) ?_
      have crl := cr_lt S (nitF S R k (bkL (otB S.1.1 a z) L)).1 (nitF S R (k + 1) (bkL (otB S.1.1 a z) L)).1 S.1.2.1
      have p8 : 2 ^ S.1.2.1 ≤ 2 ^ 8 := Nat.pow_le_pow_right (by decide) wS.2.1
      have g2 : fC (fun b => b = 65 ∨ 68 ≤ b ∧ b ≤ 72) h h84 := e1.tr (f3.mo (fun b hb => by omega))
      by_cases cz : crN S (nitF S R k (bkL (otB S.1.1 a z) L)).1 (nitF S R (k + 1) (bkL (otB S.1.1 a z) L)).1 S.1.2.1 = 0
      · rw [cz]
        exact kk () _ ⟨g2, f4, by rw [ctF, e3, crn0.mp cz]⟩
      · have ca2 : cOk S R L n h84 := ca1.fr (f3.2 78 (by omega))
        have nc : ¬ clm S R L n a z := fun q => cz (crn0.mpr (by
          have := ct_mono (S := S) (R := R) (L := (bkL (otB S.1.1 a z) L)) (k := k + 1) (n := n) (by omega)
          rw [ctF] at this
          unfold clm at q
          omega))
        refine je_iload (pc := 63) d9008_63 rfl ?_
        refine je_iload (pc := 65) d9008_65 rfl ?_
        refine jn_icge (pc := 67) (a := (k + 1)) (b := (n)) 95 d9008_67 (by decide) (by omega) (by omega) (fun c67 => ?_) (fun c67 => ?_)
        · refine je_aload0 (pc := 95) d9008_95 rfl ?_
          refine ju_getr (pc := 96) (b := 78) d9008_96 jF_9_21 rfl (sK67 H2) (sR67_3 H2) ?_
          refine je_iload (pc := 99) d9008_99 rfl ?_
          refine je_iload (pc := 101) d9008_101 rfl ?_
          refine jn_ifne (pc := 103) (a := (crN S (nitF S R k (bkL (otB S.1.1 a z) L)).1 (nitF S R (k + 1) (bkL (otB S.1.1 a z) L)).1 S.1.2.1)) 110 d9008_103 (by decide) (by omega) (fun c103 => ?_) (fun c103 => by exfalso; omega)
          refine je_iconst (pc := 110) (v := 2) d9008_110 rfl ?_
          refine ju_iast (pc := 111) (jn := (a * 11 + z)) d9008_111 (sK78 H2) (vp_in_nI (by omega) (by decide)) (nI_clamp (by omega)) ?_
          refine je_aload0 (pc := 112) d9008_112 rfl ?_
          refine ju_getr (pc := 113) (b := 78) d9008_113 jF_9_21 rfl (sK67 H2.wI) (sR67_3 H2.wI) ?_
          refine je_iload (pc := 116) d9008_116 rfl ?_
          refine ju_iald (pc := 118) (jn := (a * 11 + z)) d9008_118 (sK78 H2.wI) (vp_in_nI (by omega) (by decide)) (nI_clamp (by omega)) ?_
          refine ju_eqi (v := 2) (by rw [wI_at, jx_up_self]) ?_
          refine je_iconst (pc := 119) (v := 1) d9008_119 rfl ?_
          refine jn_icne (pc := 120) (a := 2) (b := 1) 127 d9008_120 (by decide) (by omega) (by omega) (fun c120 => ?_) (fun c120 => by exfalso; omega)
          refine je_iconst (pc := 127) (v := 0) d9008_127 rfl ?_
          refine je_zret (pc := 128) d9008_128 rfl (by decide) ?_
          exact ⟨by rw [b2_f nc], (g2.mo (fun b hb => by omega)).wI (by omega), ca2.put hmi hz (Or.inr ⟨rfl, nc⟩)⟩
        · refine je_iload (pc := 70) d9008_70 rfl ?_
          refine jn_ifne (pc := 72) (a := (crN S (nitF S R k (bkL (otB S.1.1 a z) L)).1 (nitF S R (k + 1) (bkL (otB S.1.1 a z) L)).1 S.1.2.1)) 95 d9008_72 (by decide) (by omega) (fun c72 => ?_) (fun c72 => by exfalso; omega)
          refine je_aload0 (pc := 95) d9008_95 rfl ?_
          refine ju_getr (pc := 96) (b := 78) d9008_96 jF_9_21 rfl (sK67 H2) (sR67_3 H2) ?_
          refine je_iload (pc := 99) d9008_99 rfl ?_
          refine je_iload (pc := 101) d9008_101 rfl ?_
          refine jn_ifne (pc := 103) (a := (crN S (nitF S R k (bkL (otB S.1.1 a z) L)).1 (nitF S R (k + 1) (bkL (otB S.1.1 a z) L)).1 S.1.2.1)) 110 d9008_103 (by decide) (by omega) (fun c103 => ?_) (fun c103 => by exfalso; omega)
          refine je_iconst (pc := 110) (v := 2) d9008_110 rfl ?_
          refine ju_iast (pc := 111) (jn := (a * 11 + z)) d9008_111 (sK78 H2) (vp_in_nI (by omega) (by decide)) (nI_clamp (by omega)) ?_
          refine je_aload0 (pc := 112) d9008_112 rfl ?_
          refine ju_getr (pc := 113) (b := 78) d9008_113 jF_9_21 rfl (sK67 H2.wI) (sR67_3 H2.wI) ?_
          refine je_iload (pc := 116) d9008_116 rfl ?_
          refine ju_iald (pc := 118) (jn := (a * 11 + z)) d9008_118 (sK78 H2.wI) (vp_in_nI (by omega) (by decide)) (nI_clamp (by omega)) ?_
          refine ju_eqi (v := 2) (by rw [wI_at, jx_up_self]) ?_
          refine je_iconst (pc := 119) (v := 1) d9008_119 rfl ?_
          refine jn_icne (pc := 120) (a := 2) (b := 1) 127 d9008_120 (by decide) (by omega) (by omega) (fun c120 => ?_) (fun c120 => by exfalso; omega)
          refine je_iconst (pc := 127) (v := 0) d9008_127 rfl ?_
          refine je_zret (pc := 128) d9008_128 rfl (by decide) ?_
          exact ⟨by rw [b2_f nc], (g2.mo (fun b hb => by omega)).wI (by omega), ca2.put hmi hz (Or.inr ⟨rfl, nc⟩)⟩
    · obtain ⟨e1, e2, e3⟩ := e
      have H1 := e1.St H
      have C1 := C.fr e1 (fun b hb => olA (by omega))
      have ca1 : cOk S R L n h' := ca.fr (e1.2 78 (by omega))
      refine je_iload (pc := 63) d9008_63 rfl ?_
      refine je_iload (pc := 65) d9008_65 rfl ?_
      refine jn_icge (pc := 67) (a := ((n))) (b := (n)) 95 d9008_67 (by decide) (by omega) (by omega) (fun c67 => ?_) (fun c67 => by exfalso; omega)
      refine je_aload0 (pc := 95) d9008_95 rfl ?_
      refine ju_getr (pc := 96) (b := 78) d9008_96 jF_9_21 rfl (sK67 H1) (sR67_3 H1) ?_
      refine je_iload (pc := 99) d9008_99 rfl ?_
      refine je_iload (pc := 101) d9008_101 rfl ?_
      refine jn_ifne (pc := 103) (a := 0) 110 d9008_103 (by decide) (by omega) (fun c103 => by exfalso; omega) (fun c103 => ?_)
      refine je_iconst (pc := 106) (v := 1) d9008_106 rfl ?_
      refine je_goto (pc := 107) 111 d9008_107 (by decide) ?_
      refine ju_iast (pc := 111) (jn := (a * 11 + z)) d9008_111 (sK78 H1) (vp_in_nI (by omega) (by decide)) (nI_clamp (by omega)) ?_
      refine je_aload0 (pc := 112) d9008_112 rfl ?_
      refine ju_getr (pc := 113) (b := 78) d9008_113 jF_9_21 rfl (sK67 H1.wI) (sR67_3 H1.wI) ?_
      refine je_iload (pc := 116) d9008_116 rfl ?_
      refine ju_iald (pc := 118) (jn := (a * 11 + z)) d9008_118 (sK78 H1.wI) (vp_in_nI (by omega) (by decide)) (nI_clamp (by omega)) ?_
      refine ju_eqi (v := 1) (by rw [wI_at, jx_up_self]) ?_
      refine je_iconst (pc := 119) (v := 1) d9008_119 rfl ?_
      refine jn_icne (pc := 120) (a := 1) (b := 1) 127 d9008_120 (by decide) (by omega) (by omega) (fun c120 => by exfalso; omega) (fun c120 => ?_)
      refine je_iconst (pc := 123) (v := 1) d9008_123 rfl ?_
      refine je_goto (pc := 124) 128 d9008_124 (by decide) ?_
      refine je_zret (pc := 128) d9008_128 rfl (by decide) ?_
      exact ⟨by rw [b2_t e3], (e1.mo (fun b hb => by omega)).wI (by omega), ca1.put hmi hz (Or.inl ⟨rfl, e3⟩)⟩
