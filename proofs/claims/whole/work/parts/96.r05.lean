/-! a rule told: the class reads sums -/
theorem fl_ir {T : Nat → Int32} {N : Nat} {g : RS → RS} {p q : Nat → Int32} {R : RS} {k : Nat} {s : RS} {pr su : Int32} {mo : Bool} (I : flI T N g p q R k (s, pr, su, mo)) : iR T N s := ⟨I.1, fun f => by have := I.2.1 f; dsimp only at this; omega⟩
theorem rc_sg {h : jx_H} {a N : Nat} {T : Nat → Int32} {s : RS} (B : rcI h a N T s) : h.2.1 2 2 = if s.1 = 0 then tkS T N s.2.1 else -2 := by
  by_cases f : s.1 = 0
  · rw [if_pos f, ← B.1.2.2.2]; exact (B.2.2.2.2.2 f).1.2.2.2.1
  · rw [if_neg f]; exact B.2.2.2.1 f
theorem rc_pr {h : jx_H} {a N : Nat} {T : Nat → Int32} {s : RS} (B : rcI h a N T s) : prX (h.2.1 2 2) = opZ (prR T N) s := by
  rw [rc_sg B]
  unfold opZ prR
  split
  · rfl
  · rfl
theorem rc_su {h : jx_H} {a N : Nat} {T : Nat → Int32} {s : RS} (B : rcI h a N T s) : suX (h.2.1 2 2) = opZ (suR T N) s := by
  rw [rc_sg B]
  unfold opZ suR
  split
  · rfl
  · rfl
theorem rc_cm {h : jx_H} {a N : Nat} {T : Nat → Int32} {s : RS} (B : rcI h a N T s) : cmX (h.2.1 2 2) = opZ (cmR T N) s := by
  rw [rc_sg B]
  unfold opZ cmR
  split
  · rfl
  · rfl
set_option maxHeartbeats 4000000 in
theorem t_Rr_readSum (d : Nat) {bc bs : Nat} {h : jx_H} {a N : Nat} {T : Nat → Int32} {s : RS} (B : rcI h a N T s) (ha : 125 ≤ a) (hN : N ≤ 400) (hT : bytT T N) (I : iR T N s) : jx_Tr (d + 8) bc bs 6002 [.ref 18] h (fun r h' => r = none ∧ ruF a h h' ∧ rcI h' a N T (smR T N s)) := by
  refine jx_tr jM_Rr_readSum rfl rfl (lv := [some (.ref 18), none, none, none, none]) rfl ?_
  refine je_iconst (pc := 0) (v := 0) d6002_0 rfl ?_
  refine ju_istore1 (pc := 1) (lv' := [some _, some _, none, none, none]) d6002_1 rfl rfl ?_
  refine je_iconst (pc := 2) (v := 0) d6002_2 rfl ?_
  refine ju_istore2 (pc := 3) (lv' := [some _, some _, some _, none, none]) d6002_3 rfl rfl ?_
  refine je_iconst (pc := 4) (v := 1) d6002_4 rfl ?_
  refine ju_istore3 (pc := 5) (lv' := [some _, some _, some _, some _, none]) d6002_5 rfl rfl ?_
  refine je_iconst (pc := 6) (v := 0) d6002_6 rfl ?_
  refine ju_istore (pc := 7) (lv' := [some _, some _, some _, some _, some _]) d6002_7 rfl rfl ?_
  refine je_loop (σ := (RS × Int32 × Int32 × Bool)) (61) (fun k xx => [some (.ref 18), some (.int xx.2.1), some (.int xx.2.2.1), some (.int (b2 (xx.2.2.2 = true))), some (.int (nI k))]) (fun k xx h' => ruF a h h' ∧ rcI h' a N T xx.1 ∧ flI T N (vaR T N) (prR T N) (suR T N) (smR T N s) k xx) (fun k xx h' hk e kk => ?_) (fun xx h' e => ?_) (0) (s, 0, 0, true) h (by omega) ⟨ruF.rf, B, fl_0 I⟩
  · obtain ⟨s0, pr, su, mo⟩ := xx
    obtain ⟨j1, j2, j3⟩ := e
    have j2 : rcI h' a N T s0 := j2
    show jx_Ev (d + 8) bc bs 6002 9 [some (.ref 18), some (.int pr), some (.int su), some (.int (b2 (mo = true))), some (.int (nI k))] [] h' _
    refine je_iload3 (pc := 9) d6002_9 rfl ?_
    refine jb_ifeq (pc := 10) 105 d6002_10 (by decide) (fun c10 => ?_) (fun c10 => ?_)
    · refine je_ret (pc := 105) d6002_105 rfl ?_
      have e0 : smR T N s = s0 := j3.2.2.2 (Bool.eq_false_iff.mpr c10)
      rw [e0]
      exact ⟨rfl, j1, j2⟩
    · obtain rfl : mo = true := c10
      have vgd := va_gd (T := T) hN
      have K63 : ∀ h2, ruF a h h2 → rcI h2 a N T (adz su (adz pr (vaR T N s0))) → opZ (prR T N) (adz pr (vaR T N s0)) = 0 → jx_Ev (d + 8) bc bs 6002 63 [some (.ref 18), some (.int (opZ (prR T N) (adz pr (vaR T N s0)))), some (.int su), some (.int (b2 (true = true))), some (.int (nI k))] [] h2 (fun r h' => r = none ∧ ruF a h h' ∧ rcI h' a N T (smR T N s)) := by
        intro h2 G0 G1 c48
        refine je_aload0 (pc := 63) d6002_63 rfl ?_
        refine ju_getr (pc := 64) (b := 2) d6002_64 jF_6_16 rfl (sK18 G1.1.1) (sR18_0 G1.1.1) ?_
        refine ju_geti (pc := 67) d6002_67 jF_6_74 rfl (sK2 G1.1.1) ?_
        refine ju_calls (pc := 70) (as := [_]) d6002_70 jL_6_96 jM_Rr_sumSign rfl rfl (by exact Nat.le_of_ble_eq_true rfl) (t_Rr_sumSign (d + 6) (h2.2.1 2 2)) (fun r70 h70 q70 => ?_)
        obtain ⟨rfl, e70⟩ := q70
        obtain rfl := e70.symm
        refine ju_eqi (v := opZ (suR T N) (adz su (adz pr (vaR T N s0)))) (rc_su G1) ?_
        refine ju_istore2 (pc := 73) (lv' := [some _, some _, some _, some _, some _]) d6002_73 rfl rfl ?_
        refine je_iload1 (pc := 74) d6002_74 rfl ?_
        refine je_ifne (pc := 75) 82 d6002_75 (by decide) (fun c75 => absurd c75 (fun z => z c48)) (fun c75 => ?_)
        refine je_iload2 (pc := 78) d6002_78 rfl ?_
        refine je_ifeq (pc := 79) 86 d6002_79 (by decide) (fun c79 => ?_) (fun c79 => ?_)
        · refine je_iconst (pc := 86) (v := 0) d6002_86 rfl ?_
          refine ju_istore3 (pc := 87) (lv' := [some _, some _, some _, some _, some _]) d6002_87 rfl rfl ?_
          refine je_iload3 (pc := 88) d6002_88 rfl ?_
          refine jn_ifeq (pc := 89) (a := 0) 99 d6002_89 (by decide) (by omega) (fun c89 => ?_) (fun c89 => by exfalso; omega)
          refine ju_incN (pc := 99) (v := nI ((k) + 1)) (lv' := [some _, some _, some _, some _, some _]) d6002_99 rfl (nI_1 (k)) rfl ?_
          refine je_goto (pc := 102) 9 d6002_102 (by decide) ?_
          refine kk ((adz su (adz pr (vaR T N s0))), opZ (prR T N) (adz pr (vaR T N s0)), opZ (suR T N) (adz su (adz pr (vaR T N s0))), false) _ ⟨G0, G1, by rw [c48, c79]; exact fl_C vgd hN hk j3 c48 c79⟩
        · refine je_iconst (pc := 82) (v := 1) d6002_82 rfl ?_
          refine je_goto (pc := 83) 87 d6002_83 (by decide) ?_
          refine ju_istore3 (pc := 87) (lv' := [some _, some _, some _, some _, some _]) d6002_87 rfl rfl ?_
          refine je_iload3 (pc := 88) d6002_88 rfl ?_
          refine jn_ifeq (pc := 89) (a := 1) 99 d6002_89 (by decide) (by omega) (fun c89 => by exfalso; omega) (fun c89 => ?_)
          refine je_aload0 (pc := 92) d6002_92 rfl ?_
          refine ju_getr (pc := 93) (b := 2) d6002_93 jF_6_16 rfl (sK18 G1.1.1) (sR18_0 G1.1.1) ?_
          refine ju_callv (pc := 96) (as := []) d6002_96 jL_6_42 jM_Tx_advance rfl (by decide) (sK2 G1.1.1) rfl (by exact Nat.le_of_ble_eq_true rfl) (t_Tx_advance_R (d + 4) G1 ha hN (fl_b vgd hN j3).1) (fun r96 h96 q96 => ?_)
          obtain ⟨rfl, F8, B8⟩ := q96
          refine ju_incN (pc := 99) (v := nI ((k) + 1)) (lv' := [some _, some _, some _, some _, some _]) d6002_99 rfl (nI_1 (k)) rfl ?_
          refine je_goto (pc := 102) 9 d6002_102 (by decide) ?_
          refine kk (avR T N (adz su (adz pr (vaR T N s0))), opZ (prR T N) (adz pr (vaR T N s0)), opZ (suR T N) (adz su (adz pr (vaR T N s0))), true) _ ⟨G0.tr F8, B8, by rw [c48]; exact fl_B vgd hN hk j3 c48 c79⟩
      have K36 : ∀ h2, ruF a h h2 → rcI h2 a N T (adz pr (vaR T N s0)) → jx_Ev (d + 8) bc bs 6002 36 [some (.ref 18), some (.int pr), some (.int su), some (.int (b2 (true = true))), some (.int (nI k))] [] h2 (fun r h' => r = none ∧ ruF a h h' ∧ rcI h' a N T (smR T N s)) := by
        intro h2 G0 G1
        refine je_aload0 (pc := 36) d6002_36 rfl ?_
        refine ju_getr (pc := 37) (b := 2) d6002_37 jF_6_16 rfl (sK18 G1.1.1) (sR18_0 G1.1.1) ?_
        refine ju_geti (pc := 40) d6002_40 jF_6_74 rfl (sK2 G1.1.1) ?_
        refine ju_calls (pc := 43) (as := [_]) d6002_43 jL_6_93 jM_Rr_productSign rfl rfl (by exact Nat.le_of_ble_eq_true rfl) (t_Rr_productSign (d + 6) (h2.2.1 2 2)) (fun r43 h43 q43 => ?_)
        obtain ⟨rfl, e43⟩ := q43
        obtain rfl := e43.symm
        refine ju_eqi (v := opZ (prR T N) (adz pr (vaR T N s0))) (rc_pr G1) ?_
        refine ju_istore1 (pc := 46) (lv' := [some _, some _, some _, some _, some _]) d6002_46 rfl rfl ?_
        refine je_iload1 (pc := 47) d6002_47 rfl ?_
        refine je_ifne (pc := 48) 74 d6002_48 (by decide) (fun c48 => ?_) (fun c48 => ?_)
        · refine je_iload1 (pc := 74) d6002_74 rfl ?_
          refine je_ifne (pc := 75) 82 d6002_75 (by decide) (fun c75 => ?_) (fun c75 => absurd c75 c48)
          refine je_iconst (pc := 82) (v := 1) d6002_82 rfl ?_
          refine je_goto (pc := 83) 87 d6002_83 (by decide) ?_
          refine ju_istore3 (pc := 87) (lv' := [some _, some _, some _, some _, some _]) d6002_87 rfl rfl ?_
          refine je_iload3 (pc := 88) d6002_88 rfl ?_
          refine jn_ifeq (pc := 89) (a := 1) 99 d6002_89 (by decide) (by omega) (fun c89 => by exfalso; omega) (fun c89 => ?_)
          refine je_aload0 (pc := 92) d6002_92 rfl ?_
          refine ju_getr (pc := 93) (b := 2) d6002_93 jF_6_16 rfl (sK18 G1.1.1) (sR18_0 G1.1.1) ?_
          refine ju_callv (pc := 96) (as := []) d6002_96 jL_6_42 jM_Tx_advance rfl (by decide) (sK2 G1.1.1) rfl (by exact Nat.le_of_ble_eq_true rfl) (t_Tx_advance_R (d + 4) G1 ha hN (fl_a vgd hN j3).1) (fun r96 h96 q96 => ?_)
          obtain ⟨rfl, F6, B6⟩ := q96
          refine ju_incN (pc := 99) (v := nI ((k) + 1)) (lv' := [some _, some _, some _, some _, some _]) d6002_99 rfl (nI_1 (k)) rfl ?_
          refine je_goto (pc := 102) 9 d6002_102 (by decide) ?_
          refine kk (avR T N (adz pr (vaR T N s0)), opZ (prR T N) (adz pr (vaR T N s0)), su, true) _ ⟨G0.tr F6, B6, fl_A vgd hN hk j3 c48⟩
        · refine je_iload2 (pc := 51) d6002_51 rfl ?_
          refine je_ifeq (pc := 52) 63 d6002_52 (by decide) (fun c52 => ?_) (fun c52 => ?_)
          · exact K63 _ G0 (by rw [c52, az_0]; exact G1) c48
          · refine je_aload0 (pc := 55) d6002_55 rfl ?_
            refine ju_getr (pc := 56) (b := a) d6002_56 jF_6_10 rfl (sK18 G1.1.1) G1.1.2.2.1 ?_
            refine je_iload2 (pc := 59) d6002_59 rfl ?_
            refine ju_callv (pc := 60) (as := [_]) d6002_60 jL_6_67 jM_Ru_add rfl (by decide) G1.1.2.1.1 rfl (by exact Nat.le_of_ble_eq_true rfl) (t_Ru_add (d + 6) _ G1 ha (fl_ln vgd hN j3).2) (fun r60 h60 q60 => ?_)
            obtain ⟨rfl, F7, B7⟩ := q60
            exact K63 _ (G0.tr F7) (by rw [az_n c52]; exact B7) c48
      refine je_iload (pc := 13) d6002_13 rfl ?_
      refine je_bipush (pc := 15) (v := 60) d6002_15 rfl ?_
      refine jn_icgt (pc := 17) (a := (k)) (b := 60) 105 d6002_17 (by decide) (by omega) (by omega) (fun c17 => by exfalso; omega) (fun c17 => ?_)
      refine je_aload0 (pc := 20) d6002_20 rfl ?_
      refine ju_callv (pc := 21) (as := []) d6002_21 jL_6_90 jM_Rr_readValue rfl (by decide) (sK18 j2.1.1) rfl (by exact Nat.le_of_ble_eq_true rfl) (t_Rr_readValue d j2 ha hN hT (fl_ir j3)) (fun r21 h21 q21 => ?_)
      obtain ⟨rfl, F1, B1⟩ := q21
      refine je_iload1 (pc := 24) d6002_24 rfl ?_
      refine je_ifeq (pc := 25) 36 d6002_25 (by decide) (fun c25 => ?_) (fun c25 => ?_)
      · exact K36 _ (j1.tr F1) (by rw [c25, az_0]; exact B1)
      · refine je_aload0 (pc := 28) d6002_28 rfl ?_
        refine ju_getr (pc := 29) (b := a) d6002_29 jF_6_10 rfl (sK18 B1.1.1) B1.1.2.2.1 ?_
        refine je_iload1 (pc := 32) d6002_32 rfl ?_
        refine ju_callv (pc := 33) (as := [_]) d6002_33 jL_6_67 jM_Ru_add rfl (by decide) B1.1.2.1.1 rfl (by exact Nat.le_of_ble_eq_true rfl) (t_Ru_add (d + 6) _ B1 ha (fl_ln vgd hN j3).1) (fun r33 h33 q33 => ?_)
        obtain ⟨rfl, F2, B2⟩ := q33
        exact K36 _ ((j1.tr F1).tr F2) (by rw [az_n c25]; exact B2)
  · obtain ⟨s0, pr, su, mo⟩ := xx
    obtain ⟨j1, j2, j3⟩ := e
    have j2 : rcI h' a N T s0 := j2
    show jx_Ev (d + 8) bc bs 6002 9 [some (.ref 18), some (.int pr), some (.int su), some (.int (b2 (mo = true))), some (.int (nI 61))] [] h' _
    refine je_iload3 (pc := 9) d6002_9 rfl ?_
    refine jb_ifeq (pc := 10) 105 d6002_10 (by decide) (fun c10 => ?_) (fun c10 => absurd c10 (fun z => by subst z; exact fl_61 j3))
    refine je_ret (pc := 105) d6002_105 rfl ?_
    have e0 : smR T N s = s0 := j3.2.2.2 (Bool.eq_false_iff.mpr c10)
    rw [e0]
    exact ⟨rfl, j1, j2⟩
set_option maxHeartbeats 2000000 in
theorem t_Rr_takeComparison (d : Nat) {bc bs : Nat} {h : jx_H} {a N : Nat} {T : Nat → Int32} {s : RS} (B : rcI h a N T s) (ha : 125 ≤ a) (hN : N ≤ 400) (hT : bytT T N) (I : iR T N s) : jx_Tr (d + 4) bc bs 6011 [.ref 18] h (fun r h' => r = some (.int (opZ (cmR T N) s)) ∧ ruF a h h' ∧ rcI h' a N T (avR T N (cnR (if opZ (cmR T N) s = 0 then blR 0 s else s)))) := by
  refine jx_tr jM_Rr_takeComparison rfl rfl (lv := [some (.ref 18), none]) rfl ?_
  have K23 : ∀ h2, ruF a h h2 → rcI h2 a N T (if opZ (cmR T N) s = 0 then blR 0 s else s) → jx_Ev (d + 4) bc bs 6011 23 [some (.ref 18), some (.int (opZ (cmR T N) s))] [] h2 (fun r h' => r = some (.int (opZ (cmR T N) s)) ∧ ruF a h h' ∧ rcI h' a N T (avR T N (cnR (if opZ (cmR T N) s = 0 then blR 0 s else s)))) := by
    intro h2 G0 G1
    have I1 : iR T N (if opZ (cmR T N) s = 0 then blR 0 s else s) := ik_i I hN
    refine je_aload0 (pc := 23) d6011_23 rfl ?_
    refine ju_callv (pc := 24) (as := []) d6011_24 jL_6_87 jM_Rr_countValue rfl (by decide) (sK18 G1.1.1) rfl (by exact Nat.le_of_ble_eq_true rfl) (t_Rr_countValue (d + 1) G1 ha hN hT I1) (fun r24 h24 q24 => ?_)
    obtain ⟨rfl, F3, B3⟩ := q24
    refine je_aload0 (pc := 27) d6011_27 rfl ?_
    refine ju_getr (pc := 28) (b := 2) d6011_28 jF_6_16 rfl (sK18 B3.1.1) (sR18_0 B3.1.1) ?_
    refine ju_callv (pc := 31) (as := []) d6011_31 jL_6_42 jM_Tx_advance rfl (by decide) (sK2 B3.1.1) rfl (by exact Nat.le_of_ble_eq_true rfl) (t_Tx_advance_R d B3 ha hN (cn_i I1 hN).1) (fun r31 h31 q31 => ?_)
    obtain ⟨rfl, F4, B4⟩ := q31
    refine je_iload1 (pc := 34) d6011_34 rfl ?_
    refine je_iret (pc := 35) d6011_35 rfl ?_
    exact ⟨rfl, (G0.tr F3).tr F4, B4⟩
  refine je_aload0 (pc := 0) d6011_0 rfl ?_
  refine ju_getr (pc := 1) (b := 2) d6011_1 jF_6_16 rfl (sK18 B.1.1) (sR18_0 B.1.1) ?_
  refine ju_geti (pc := 4) d6011_4 jF_6_74 rfl (sK2 B.1.1) ?_
  refine ju_calls (pc := 7) (as := [_]) d6011_7 jL_6_83 jM_Rr_comparison rfl rfl (by exact Nat.le_of_ble_eq_true rfl) (t_Rr_comparison (d + 2) (h.2.1 2 2)) (fun r7 h7 q7 => ?_)
  obtain ⟨rfl, e7⟩ := q7
  obtain rfl := e7.symm
  refine ju_eqi (v := opZ (cmR T N) s) (rc_cm B) ?_
  refine ju_istore1 (pc := 10) (lv' := [some _, some _]) d6011_10 rfl rfl ?_
  refine je_iload1 (pc := 11) d6011_11 rfl ?_
  refine je_ifne (pc := 12) 23 d6011_12 (by decide) (fun c12 => ?_) (fun c12 => ?_)
  · exact K23 _ ruF.rf (by rw [if_neg c12]; exact B)
  · refine je_aload0 (pc := 15) d6011_15 rfl ?_
    refine ju_getr (pc := 16) (b := 2) d6011_16 jF_6_16 rfl (sK18 B.1.1) (sR18_0 B.1.1) ?_
    refine je_iconst (pc := 19) (v := 0) d6011_19 rfl ?_
    refine ju_callv (pc := 20) (as := [_]) d6011_20 jL_6_38 jM_Tx_blame rfl (by decide) (sK2 B.1.1) rfl (by exact Nat.le_of_ble_eq_true rfl) (t_Tx_blame_R (d + 2) (k := 0) (by decide) B ha hN I.1) (fun r20 h20 q20 => ?_)
    obtain ⟨rfl, F1, B1⟩ := q20
    exact K23 _ F1 (by rw [if_pos c12]; exact B1)
