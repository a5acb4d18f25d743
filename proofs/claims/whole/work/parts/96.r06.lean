/-! a rule told: the class reads tests -/
theorem an_z {T : Nat → Int32} {N : Nat} {u : RS} : (¬ opZ (anR T N) u = 0) ↔ (u.1 = 0 ∧ stW T N u.2.1 (wdO 8)) := by
  unfold opZ anR
  by_cases f : u.1 = 0
  · rw [if_pos f]
    by_cases c : stW T N u.2.1 (wdO 8)
    · rw [if_pos c]; exact ⟨fun _ => ⟨f, c⟩, fun _ => by decide⟩
    · rw [if_neg c]; exact ⟨fun z => absurd rfl z, fun z => absurd z.2 c⟩
  · rw [if_neg f]; exact ⟨fun z => absurd rfl z, fun z => absurd z.1 f⟩
theorem an_v {T : Nat → Int32} {N : Nat} {u : RS} : opZ (anR T N) u = 0 ∨ opZ (anR T N) u = -11 := by
  unfold opZ anR
  split
  · split
    · exact Or.inr rfl
    · exact Or.inl rfl
  · exact Or.inl rfl
theorem or_z {T : Nat → Int32} {N : Nat} {u : RS} : (¬ opZ (orR T N) u = 0) ↔ (u.1 = 0 ∧ stW T N u.2.1 (wdO 9)) := by
  unfold opZ orR
  by_cases f : u.1 = 0
  · rw [if_pos f]
    by_cases c : stW T N u.2.1 (wdO 9)
    · rw [if_pos c]; exact ⟨fun _ => ⟨f, c⟩, fun _ => by decide⟩
    · rw [if_neg c]; exact ⟨fun z => absurd rfl z, fun z => absurd z.2 c⟩
  · rw [if_neg f]; exact ⟨fun z => absurd rfl z, fun z => absurd z.1 f⟩
theorem or_v {T : Nat → Int32} {N : Nat} {u : RS} : opZ (orR T N) u = 0 ∨ opZ (orR T N) u = -12 := by
  unfold opZ orR
  split
  · split
    · exact Or.inr rfl
    · exact Or.inl rfl
  · exact Or.inl rfl
theorem sg_x {T : Nat → Int32} {N : Nat} {s : RS} {x : Int32} (hx : ¬ (-2 : Int32) = x) : (if s.1 = 0 then tkS T N s.2.1 else -2) = x ↔ (s.1 = 0 ∧ tkS T N s.2.1 = x) := by
  by_cases f : s.1 = 0
  · rw [if_pos f]; exact ⟨fun z => ⟨f, z⟩, fun z => z.2⟩
  · rw [if_neg f]; exact ⟨fun z => absurd z hx, fun z => absurd z.1 f⟩
theorem cp_e {T : Nat → Int32} {N : Nat} {s : RS} (hN : N ≤ 400) (O : okR T N (smR T N s)) : adR (opZ (cmR T N) (smR T N s)) (smR T N (avR T N (cnR (if opZ (cmR T N) (smR T N s) = 0 then blR 0 (smR T N s) else smR T N s)))) = cpR T N s := by
  unfold cpR
  generalize smR T N s = u at O ⊢
  unfold opZ
  by_cases f : u.1 = 0
  · rw [if_pos f]
    by_cases c : cmR T N u.2.1 = 0
    · have nz := bl_nz (k := 0) O hN (by decide)
      rw [if_pos c, if_pos ⟨f, c⟩, cn_f nz, av_f nz, sm_f nz, ad_f nz]
    · rw [if_neg c, if_neg (fun z => c z.2)]
  · rw [if_neg f, if_pos rfl, bl_f f, if_neg (fun z => f z.1), cn_f f, av_f f, sm_f f, ad_f f, ad_f f]
set_option maxHeartbeats 4000000 in
theorem t_Rr_readTest (d : Nat) {bc bs : Nat} {h : jx_H} {a N r n : Nat} {T : Nat → Int32} {s : RS} (F : ∀ (bc bs : Nat) (h : jx_H) (s : RS), rcI h a N T s → iR T N s → jx_Tr (d + 9) bc bs 6010 [.ref 18, .int (nI n)] h (fun r0 h' => r0 = none ∧ ruF a h h' ∧ rcI h' a N T (fcR T N r s))) (B : rcI h a N T s) (ha : 125 ≤ a) (hN : N ≤ 400) (hT : bytT T N) (hn : n ≤ 10) (I : iR T N s) : jx_Tr (d + 10) bc bs 6009 [.ref 18, .int (nI n)] h (fun r0 h' => r0 = none ∧ ruF a h h' ∧ rcI h' a N T (teR T N r s)) := by
  refine jx_tr jM_Rr_readTest rfl rfl (lv := [some (.ref 18), some (.int (nI n)), none, none, none, none]) rfl ?_
  refine je_iconst (pc := 0) (v := 0) d6009_0 rfl ?_
  refine ju_istore2 (pc := 1) (lv' := [some _, some _, some _, none, none, none]) d6009_1 rfl rfl ?_
  refine je_iconst (pc := 2) (v := 0) d6009_2 rfl ?_
  refine ju_istore3 (pc := 3) (lv' := [some _, some _, some _, some _, none, none]) d6009_3 rfl rfl ?_
  refine je_iconst (pc := 4) (v := 1) d6009_4 rfl ?_
  refine ju_istore (pc := 5) (lv' := [some _, some _, some _, some _, some _, none]) d6009_5 rfl rfl ?_
  refine je_iconst (pc := 7) (v := 0) d6009_7 rfl ?_
  refine ju_istore (pc := 8) (lv' := [some _, some _, some _, some _, some _, some _]) d6009_8 rfl rfl ?_
  refine je_loop (σ := (RS × Int32 × Int32 × Bool)) (61) (fun k xx => [some (.ref 18), some (.int (nI n)), some (.int (b2 (¬ xx.2.1 = 0))), some (.int (b2 (¬ xx.2.2.1 = 0))), some (.int (b2 (xx.2.2.2 = true))), some (.int (nI k))]) (fun k xx h' => ruF a h h' ∧ rcI h' a N T xx.1 ∧ flI T N (fcR T N r) (anR T N) (orR T N) (teR T N r s) k xx ∧ (xx.2.1 = 0 ∨ xx.2.1 = -11) ∧ (xx.2.2.1 = 0 ∨ xx.2.2.1 = -12)) (fun k xx h' hk e kk => ?_) (fun xx h' e => ?_) (0) (s, 0, 0, true) h (by omega) ⟨ruF.rf, B, fl_0 I, Or.inl rfl, Or.inl rfl⟩
  · obtain ⟨s0, pr, su, mo⟩ := xx
    obtain ⟨j1, y2, j3, y4, y5⟩ := e
    have j2 : rcI h' a N T s0 := y2
    have j4 : pr = 0 ∨ pr = -11 := y4
    have j5 : su = 0 ∨ su = -12 := y5
    show jx_Ev (d + 10) bc bs 6009 10 [some (.ref 18), some (.int (nI n)), some (.int (b2 (¬ pr = 0))), some (.int (b2 (¬ su = 0))), some (.int (b2 (mo = true))), some (.int (nI k))] [] h' _
    refine je_iload (pc := 10) d6009_10 rfl ?_
    refine jb_ifeq (pc := 12) 110 d6009_12 (by decide) (fun c12 => ?_) (fun c12 => ?_)
    · refine je_ret (pc := 110) d6009_110 rfl ?_
      have e0 : teR T N r s = s0 := j3.2.2.2 (Bool.eq_false_iff.mpr c12)
      rw [e0]
      exact ⟨rfl, j1, j2⟩
    · obtain rfl : mo = true := c12
      have vgd := fc_gd (T := T) hN r
      have K67 : ∀ h2, ruF a h h2 → rcI h2 a N T (adz su (adz pr (fcR T N r s0))) → opZ (anR T N) (adz pr (fcR T N r s0)) = 0 → jx_Ev (d + 10) bc bs 6009 67 [some (.ref 18), some (.int (nI n)), some (.int (b2 (¬ opZ (anR T N) (adz pr (fcR T N r s0)) = 0))), some (.int (b2 (¬ su = 0))), some (.int (b2 (true = true))), some (.int (nI k))] [] h2 (fun r0 h' => r0 = none ∧ ruF a h h' ∧ rcI h' a N T (teR T N r s)) := by
        intro h2 G0 G1 c51
        refine je_aload0 (pc := 67) d6009_67 rfl ?_
        refine ju_getr (pc := 68) (b := 2) d6009_68 jF_6_16 rfl (sK18 G1.1.1) (sR18_0 G1.1.1) ?_
        refine je_ldcS (pc := 71) (e := 9) d6009_71 rfl ?_
        refine ju_callv (pc := 73) (as := [_]) d6009_73 jL_6_34 jM_Tx_isWord rfl (by decide) (sK2 G1.1.1) rfl (by exact Nat.le_of_ble_eq_true rfl) (t_Tx_isWord_R (d + 4) (e := 9) (by decide) G1 hN hT (fl_b vgd hN j3).1) (fun r73 h73 q73 => ?_)
        obtain ⟨rfl, e73⟩ := q73
        obtain rfl := e73.symm
        refine ju_eqi (v := b2 (¬ opZ (orR T N) (adz su (adz pr (fcR T N r s0))) = 0)) (b2_c or_z.symm) ?_
        refine ju_istore3 (pc := 76) (lv' := [some _, some _, some _, some _, some _, some _]) d6009_76 rfl rfl ?_
        refine je_iload2 (pc := 77) d6009_77 rfl ?_
        refine jb_ifne (pc := 78) 85 d6009_78 (by decide) (fun c78 => absurd c78 (fun z => z c51)) (fun c78 => ?_)
        refine je_iload3 (pc := 81) d6009_81 rfl ?_
        refine jb_ifeq (pc := 82) 89 d6009_82 (by decide) (fun c82 => ?_) (fun c82 => ?_)
        · refine je_iconst (pc := 89) (v := 0) d6009_89 rfl ?_
          refine ju_istore (pc := 90) (lv' := [some _, some _, some _, some _, some _, some _]) d6009_90 rfl rfl ?_
          refine je_iload (pc := 92) d6009_92 rfl ?_
          refine jn_ifeq (pc := 94) (a := 0) 104 d6009_94 (by decide) (by omega) (fun c94 => ?_) (fun c94 => by exfalso; omega)
          refine ju_incN (pc := 104) (v := nI ((k) + 1)) (lv' := [some _, some _, some _, some _, some _, some _]) d6009_104 rfl (nI_1 (k)) rfl ?_
          refine je_goto (pc := 107) 10 d6009_107 (by decide) ?_
          have c8 := Decidable.not_not.mp c82
          refine kk ((adz su (adz pr (fcR T N r s0))), opZ (anR T N) (adz pr (fcR T N r s0)), opZ (orR T N) (adz su (adz pr (fcR T N r s0))), false) _ ⟨G0, G1, by rw [c51, c8]; exact fl_C vgd hN hk j3 c51 c8, an_v, or_v⟩
        · refine je_iconst (pc := 85) (v := 1) d6009_85 rfl ?_
          refine je_goto (pc := 86) 90 d6009_86 (by decide) ?_
          refine ju_istore (pc := 90) (lv' := [some _, some _, some _, some _, some _, some _]) d6009_90 rfl rfl ?_
          refine je_iload (pc := 92) d6009_92 rfl ?_
          refine jn_ifeq (pc := 94) (a := 1) 104 d6009_94 (by decide) (by omega) (fun c94 => by exfalso; omega) (fun c94 => ?_)
          refine je_aload0 (pc := 97) d6009_97 rfl ?_
          refine ju_getr (pc := 98) (b := 2) d6009_98 jF_6_16 rfl (sK18 G1.1.1) (sR18_0 G1.1.1) ?_
          refine ju_callv (pc := 101) (as := []) d6009_101 jL_6_42 jM_Tx_advance rfl (by decide) (sK2 G1.1.1) rfl (by exact Nat.le_of_ble_eq_true rfl) (t_Tx_advance_R (d + 6) G1 ha hN (fl_b vgd hN j3).1) (fun r101 h101 q101 => ?_)
          obtain ⟨rfl, F8, B8⟩ := q101
          refine ju_incN (pc := 104) (v := nI ((k) + 1)) (lv' := [some _, some _, some _, some _, some _, some _]) d6009_104 rfl (nI_1 (k)) rfl ?_
          refine je_goto (pc := 107) 10 d6009_107 (by decide) ?_
          refine kk (avR T N (adz su (adz pr (fcR T N r s0))), opZ (anR T N) (adz pr (fcR T N r s0)), opZ (orR T N) (adz su (adz pr (fcR T N r s0))), true) _ ⟨G0.tr F8, B8, by rw [c51]; exact fl_B vgd hN hk j3 c51 c82, an_v, or_v⟩
      have K40 : ∀ h2, ruF a h h2 → rcI h2 a N T (adz pr (fcR T N r s0)) → jx_Ev (d + 10) bc bs 6009 40 [some (.ref 18), some (.int (nI n)), some (.int (b2 (¬ pr = 0))), some (.int (b2 (¬ su = 0))), some (.int (b2 (true = true))), some (.int (nI k))] [] h2 (fun r0 h' => r0 = none ∧ ruF a h h' ∧ rcI h' a N T (teR T N r s)) := by
        intro h2 G0 G1
        refine je_aload0 (pc := 40) d6009_40 rfl ?_
        refine ju_getr (pc := 41) (b := 2) d6009_41 jF_6_16 rfl (sK18 G1.1.1) (sR18_0 G1.1.1) ?_
        refine je_ldcS (pc := 44) (e := 8) d6009_44 rfl ?_
        refine ju_callv (pc := 46) (as := [_]) d6009_46 jL_6_34 jM_Tx_isWord rfl (by decide) (sK2 G1.1.1) rfl (by exact Nat.le_of_ble_eq_true rfl) (t_Tx_isWord_R (d + 4) (e := 8) (by decide) G1 hN hT (fl_a vgd hN j3).1) (fun r46 h46 q46 => ?_)
        obtain ⟨rfl, e46⟩ := q46
        obtain rfl := e46.symm
        refine ju_eqi (v := b2 (¬ opZ (anR T N) (adz pr (fcR T N r s0)) = 0)) (b2_c an_z.symm) ?_
        refine ju_istore2 (pc := 49) (lv' := [some _, some _, some _, some _, some _, some _]) d6009_49 rfl rfl ?_
        refine je_iload2 (pc := 50) d6009_50 rfl ?_
        refine jb_ifne (pc := 51) 77 d6009_51 (by decide) (fun c51 => ?_) (fun c51 => ?_)
        · refine je_iload2 (pc := 77) d6009_77 rfl ?_
          refine jb_ifne (pc := 78) 85 d6009_78 (by decide) (fun c78 => ?_) (fun c78 => absurd c78 (fun z => z c51))
          refine je_iconst (pc := 85) (v := 1) d6009_85 rfl ?_
          refine je_goto (pc := 86) 90 d6009_86 (by decide) ?_
          refine ju_istore (pc := 90) (lv' := [some _, some _, some _, some _, some _, some _]) d6009_90 rfl rfl ?_
          refine je_iload (pc := 92) d6009_92 rfl ?_
          refine jn_ifeq (pc := 94) (a := 1) 104 d6009_94 (by decide) (by omega) (fun c94 => by exfalso; omega) (fun c94 => ?_)
          refine je_aload0 (pc := 97) d6009_97 rfl ?_
          refine ju_getr (pc := 98) (b := 2) d6009_98 jF_6_16 rfl (sK18 G1.1.1) (sR18_0 G1.1.1) ?_
          refine ju_callv (pc := 101) (as := []) d6009_101 jL_6_42 jM_Tx_advance rfl (by decide) (sK2 G1.1.1) rfl (by exact Nat.le_of_ble_eq_true rfl) (t_Tx_advance_R (d + 6) G1 ha hN (fl_a vgd hN j3).1) (fun r101 h101 q101 => ?_)
          obtain ⟨rfl, F6, B6⟩ := q101
          refine ju_incN (pc := 104) (v := nI ((k) + 1)) (lv' := [some _, some _, some _, some _, some _, some _]) d6009_104 rfl (nI_1 (k)) rfl ?_
          refine je_goto (pc := 107) 10 d6009_107 (by decide) ?_
          refine kk (avR T N (adz pr (fcR T N r s0)), opZ (anR T N) (adz pr (fcR T N r s0)), su, true) _ ⟨G0.tr F6, B6, fl_A vgd hN hk j3 c51, an_v, j5⟩
        · refine je_iload3 (pc := 54) d6009_54 rfl ?_
          refine jb_ifeq (pc := 55) 67 d6009_55 (by decide) (fun c55 => ?_) (fun c55 => ?_)
          · exact K67 _ G0 (by rw [Decidable.not_not.mp c55, az_0]; exact G1) (Decidable.not_not.mp c51)
          · refine je_aload0 (pc := 58) d6009_58 rfl ?_
            refine ju_getr (pc := 59) (b := a) d6009_59 jF_6_10 rfl (sK18 G1.1.1) G1.1.2.2.1 ?_
            refine je_bipush (pc := 62) (v := -12) d6009_62 rfl ?_
            refine ju_callv (pc := 64) (as := [_]) d6009_64 jL_6_67 jM_Ru_add rfl (by decide) G1.1.2.1.1 rfl (by exact Nat.le_of_ble_eq_true rfl) (t_Ru_add (d + 8) _ G1 ha (fl_ln vgd hN j3).2) (fun r64 h64 q64 => ?_)
            obtain ⟨rfl, F7, B7⟩ := q64
            exact K67 _ (G0.tr F7) (by rw [az_n c55, j5.resolve_left c55]; exact B7) (Decidable.not_not.mp c51)
      refine je_iload (pc := 15) d6009_15 rfl ?_
      refine je_bipush (pc := 17) (v := 60) d6009_17 rfl ?_
      refine jn_icgt (pc := 19) (a := (k)) (b := 60) 110 d6009_19 (by decide) (by omega) (by omega) (fun c19 => by exfalso; omega) (fun c19 => ?_)
      refine je_aload0 (pc := 22) d6009_22 rfl ?_
      refine je_iload1 (pc := 23) d6009_23 rfl ?_
      refine ju_callv (pc := 24) (as := [_]) d6009_24 jL_6_64 jM_Rr_readFact rfl (by decide) (sK18 j2.1.1) rfl (by exact Nat.le_of_ble_eq_true rfl) (F 0 0 _ _ j2 (fl_ir j3)) (fun r24 h24 q24 => ?_)
      obtain ⟨rfl, F1, B1⟩ := q24
      refine je_iload2 (pc := 27) d6009_27 rfl ?_
      refine jb_ifeq (pc := 28) 40 d6009_28 (by decide) (fun c28 => ?_) (fun c28 => ?_)
      · exact K40 _ (j1.tr F1) (by rw [Decidable.not_not.mp c28, az_0]; exact B1)
      · refine je_aload0 (pc := 31) d6009_31 rfl ?_
        refine ju_getr (pc := 32) (b := a) d6009_32 jF_6_10 rfl (sK18 B1.1.1) B1.1.2.2.1 ?_
        refine je_bipush (pc := 35) (v := -11) d6009_35 rfl ?_
        refine ju_callv (pc := 37) (as := [_]) d6009_37 jL_6_67 jM_Ru_add rfl (by decide) B1.1.2.1.1 rfl (by exact Nat.le_of_ble_eq_true rfl) (t_Ru_add (d + 8) _ B1 ha (fl_ln vgd hN j3).1) (fun r37 h37 q37 => ?_)
        obtain ⟨rfl, F2, B2⟩ := q37
        exact K40 _ ((j1.tr F1).tr F2) (by rw [az_n c28, j4.resolve_left c28]; exact B2)
  · obtain ⟨s0, pr, su, mo⟩ := xx
    obtain ⟨j1, y2, j3, y4, y5⟩ := e
    have j2 : rcI h' a N T s0 := y2
    have j4 : pr = 0 ∨ pr = -11 := y4
    have j5 : su = 0 ∨ su = -12 := y5
    show jx_Ev (d + 10) bc bs 6009 10 [some (.ref 18), some (.int (nI n)), some (.int (b2 (¬ pr = 0))), some (.int (b2 (¬ su = 0))), some (.int (b2 (mo = true))), some (.int (nI 61))] [] h' _
    refine je_iload (pc := 10) d6009_10 rfl ?_
    refine jb_ifeq (pc := 12) 110 d6009_12 (by decide) (fun c12 => ?_) (fun c12 => absurd c12 (fun z => by subst z; exact fl_61 j3))
    refine je_ret (pc := 110) d6009_110 rfl ?_
    have e0 : teR T N r s = s0 := j3.2.2.2 (Bool.eq_false_iff.mpr c12)
    rw [e0]
    exact ⟨rfl, j1, j2⟩
set_option maxHeartbeats 4000000 in
theorem t_Rr_readFact_0 (d : Nat) {bc bs : Nat} {h : jx_H} {a N n : Nat} {T : Nat → Int32} {s : RS} (B : rcI h a N T s) (ha : 125 ≤ a) (hN : N ≤ 400) (hT : bytT T N) (hn : n = 10) (I : iR T N s) : jx_Tr (d + 9) bc bs 6010 [.ref 18, .int (nI n)] h (fun r0 h' => r0 = none ∧ ruF a h h' ∧ rcI h' a N T (fcR T N 0 s)) := by
  refine jx_tr jM_Rr_readFact rfl rfl (lv := [some (.ref 18), some (.int (nI n)), none, none, none]) rfl ?_
  have K62 : s.1 = 0 ∧ (stW T N s.2.1 (wdO 10) ∨ tkS T N s.2.1 = 91) → jx_Ev (d + 9) bc bs 6010 62 [some (.ref 18), some (.int (nI n)), some (.int (b2 (s.1 = 0 ∧ tkS T N s.2.1 = 91))), some (.int (b2 (s.1 = 0 ∧ stW T N s.2.1 (wdO 10)))), none] [] h (fun r0 h' => r0 = none ∧ ruF a h h' ∧ rcI h' a N T (fcR T N 0 s)) := by
    intro o
    refine je_iload1 (pc := 62) d6010_62 rfl ?_
    refine je_bipush (pc := 63) (v := 10) d6010_63 rfl ?_
    refine jn_iclt (pc := 65) (a := (n)) (b := 10) 79 d6010_65 (by decide) (by omega) (by omega) (fun c65 => by exfalso; omega) (fun c65 => ?_)
    refine je_aload0 (pc := 68) d6010_68 rfl ?_
    refine ju_getr (pc := 69) (b := 2) d6010_69 jF_6_16 rfl (sK18 B.1.1) (sR18_0 B.1.1) ?_
    refine je_iconst (pc := 72) (v := 2) d6010_72 rfl ?_
    refine ju_callv (pc := 73) (as := [_]) d6010_73 jL_6_38 jM_Tx_blame rfl (by decide) (sK2 B.1.1) rfl (by exact Nat.le_of_ble_eq_true rfl) (t_Tx_blame_R (d + 7) (k := 2) (by decide) B ha hN I.1) (fun r73 h73 q73 => ?_)
    obtain ⟨rfl, F1, B1⟩ := q73
    refine je_goto (pc := 76) 150 d6010_76 (by decide) ?_
    refine je_ret (pc := 150) d6010_150 rfl ?_
    rw [fcR, if_pos o]
    exact ⟨rfl, F1, B1⟩
  refine je_aload0 (pc := 0) d6010_0 rfl ?_
  refine ju_getr (pc := 1) (b := 2) d6010_1 jF_6_16 rfl (sK18 B.1.1) (sR18_0 B.1.1) ?_
  refine ju_geti (pc := 4) d6010_4 jF_6_74 rfl (sK2 B.1.1) ?_
  refine ju_eqi (v := (if s.1 = 0 then tkS T N s.2.1 else -2)) (rc_sg B) ?_
  refine je_bipush (pc := 7) (v := 91) d6010_7 rfl ?_
  refine ju_tern2 (pc := 9) (V := (b2 (s.1 = 0 ∧ tkS T N s.2.1 = 91))) 17 ?_ (fun jn9 => ?_)
  · refine ju_istore2 (pc := 17) (lv' := [some _, some _, some _, none, none]) d6010_17 rfl rfl ?_
    refine je_aload0 (pc := 18) d6010_18 rfl ?_
    refine ju_getr (pc := 19) (b := 2) d6010_19 jF_6_16 rfl (sK18 B.1.1) (sR18_0 B.1.1) ?_
    refine je_ldcS (pc := 22) (e := 10) d6010_22 rfl ?_
    refine ju_callv (pc := 24) (as := [_]) d6010_24 jL_6_34 jM_Tx_isWord rfl (by decide) (sK2 B.1.1) rfl (by exact Nat.le_of_ble_eq_true rfl) (t_Tx_isWord_R (d + 3) (e := 10) (by decide) B hN hT I.1) (fun r24 h24 q24 => ?_)
    obtain ⟨rfl, e24⟩ := q24
    obtain rfl := e24.symm
    refine ju_istore3 (pc := 27) (lv' := [some _, some _, some _, some _, none]) d6010_27 rfl rfl ?_
    refine je_iload2 (pc := 28) d6010_28 rfl ?_
    refine jb_ifne (pc := 29) 62 d6010_29 (by decide) (fun c29 => ?_) (fun c29 => ?_)
    · exact K62 ⟨c29.1, Or.inr c29.2⟩
    · refine je_iload3 (pc := 32) d6010_32 rfl ?_
      refine jb_ifne (pc := 33) 62 d6010_33 (by decide) (fun c33 => ?_) (fun c33 => ?_)
      · exact K62 ⟨c33.1, Or.inl c33.2⟩
      · refine je_aload0 (pc := 36) d6010_36 rfl ?_
        refine ju_callv (pc := 37) (as := []) d6010_37 jL_6_48 jM_Rr_readSum rfl (by decide) (sK18 B.1.1) rfl (by exact Nat.le_of_ble_eq_true rfl) (t_Rr_readSum (d + 0) B ha hN hT I) (fun r37 h37 q37 => ?_)
        obtain ⟨rfl, F1, B1⟩ := q37
        have I1 := gd_i (sm_gd hN) I
        refine je_aload0 (pc := 40) d6010_40 rfl ?_
        refine ju_callv (pc := 41) (as := []) d6010_41 jL_6_79 jM_Rr_takeComparison rfl (by decide) (sK18 B1.1.1) rfl (by exact Nat.le_of_ble_eq_true rfl) (t_Rr_takeComparison (d + 4) B1 ha hN hT I1) (fun r41 h41 q41 => ?_)
        obtain ⟨rfl, F2, B2⟩ := q41
        have I2 : iR T N (avR T N (cnR (if opZ (cmR T N) (smR T N s) = 0 then blR 0 (smR T N s) else smR T N s))) := av_i (cn_i (ik_i I1 hN) hN)
        refine ju_istore (pc := 44) (lv' := [some _, some _, some _, some _, some _]) d6010_44 rfl rfl ?_
        refine je_aload0 (pc := 46) d6010_46 rfl ?_
        refine ju_callv (pc := 47) (as := []) d6010_47 jL_6_48 jM_Rr_readSum rfl (by decide) (sK18 B2.1.1) rfl (by exact Nat.le_of_ble_eq_true rfl) (t_Rr_readSum (d + 0) B2 ha hN hT I2) (fun r47 h47 q47 => ?_)
        obtain ⟨rfl, F3, B3⟩ := q47
        have I3 := gd_i (sm_gd hN) I2
        refine je_aload0 (pc := 50) d6010_50 rfl ?_
        refine ju_getr (pc := 51) (b := a) d6010_51 jF_6_10 rfl (sK18 B3.1.1) B3.1.2.2.1 ?_
        refine je_iload (pc := 54) d6010_54 rfl ?_
        refine ju_callv (pc := 56) (as := [_]) d6010_56 jL_6_67 jM_Ru_add rfl (by decide) B3.1.2.1.1 rfl (by exact Nat.le_of_ble_eq_true rfl) (t_Ru_add (d + 7) _ B3 ha (fun f => by have := i_len I3 hN f; omega)) (fun r56 h56 q56 => ?_)
        obtain ⟨rfl, F4, B4⟩ := q56
        rw [cp_e hN I1.1] at B4
        refine je_goto (pc := 59) 150 d6010_59 (by decide) ?_
        refine je_ret (pc := 150) d6010_150 rfl ?_
        rw [fcR, if_neg (fun z => z.2.elim (fun y => c33 ⟨z.1, y⟩) (fun y => c29 ⟨z.1, y⟩))]
        exact ⟨rfl, ((F1.tr F2).tr F3).tr F4, B4⟩
  · refine je_icne (pc := 9) 16 d6010_9 (by decide) (fun c9 => ?_) (fun c9 => ?_)
    · refine je_iconst (pc := 16) (v := 0) d6010_16 rfl ?_
      refine ju_eqi (v := (b2 (s.1 = 0 ∧ tkS T N s.2.1 = 91))) (b2_f (fun z => c9 ((sg_x (by decide)).mpr z))).symm ?_
      exact jn9
    · refine je_iconst (pc := 12) (v := 1) d6010_12 rfl ?_
      refine je_goto (pc := 13) 17 d6010_13 (by decide) ?_
      refine ju_eqi (v := (b2 (s.1 = 0 ∧ tkS T N s.2.1 = 91))) (b2_t ((sg_x (by decide)).mp c9)).symm ?_
      exact jn9
set_option maxHeartbeats 4000000 in
theorem t_Rr_readFact_s (d : Nat) {bc bs : Nat} {h : jx_H} {a N r n : Nat} {T : Nat → Int32} {s : RS} (F : ∀ (bc bs : Nat) (h : jx_H) (s : RS), rcI h a N T s → iR T N s → jx_Tr (d + 9) bc bs 6010 [.ref 18, .int (nI (n + 1))] h (fun r0 h' => r0 = none ∧ ruF a h h' ∧ rcI h' a N T (fcR T N r s))) (G : ∀ (bc bs : Nat) (h : jx_H) (s : RS), rcI h a N T s → iR T N s → jx_Tr (d + 9) bc bs 6009 [.ref 18, .int (nI (n + 1))] h (fun r0 h' => r0 = none ∧ ruF a h h' ∧ rcI h' a N T (teR T N r s))) (B : rcI h a N T s) (ha : 125 ≤ a) (hN : N ≤ 400) (hT : bytT T N) (hn : n < 10) (I : iR T N s) : jx_Tr (d + 10) bc bs 6010 [.ref 18, .int (nI n)] h (fun r0 h' => r0 = none ∧ ruF a h h' ∧ rcI h' a N T (fcR T N (r + 1) s)) := by
  refine jx_tr jM_Rr_readFact rfl rfl (lv := [some (.ref 18), some (.int (nI n)), none, none, none]) rfl ?_
  have K143 : ∀ h8 s8, ruF a h h8 → rcI h8 a N T s8 → okR T N s8 → avR T N s8 = fcR T N (r + 1) s → jx_Ev (d + 10) bc bs 6010 143 [some (.ref 18), some (.int (nI n)), some (.int (b2 (s.1 = 0 ∧ tkS T N s.2.1 = 91))), some (.int (b2 (s.1 = 0 ∧ stW T N s.2.1 (wdO 10)))), none] [] h8 (fun r0 h' => r0 = none ∧ ruF a h h' ∧ rcI h' a N T (fcR T N (r + 1) s)) := by
    intro h8 s8 G8 B8 O8 E8
    refine je_aload0 (pc := 143) d6010_143 rfl ?_
    refine ju_getr (pc := 144) (b := 2) d6010_144 jF_6_16 rfl (sK18 B8.1.1) (sR18_0 B8.1.1) ?_
    refine ju_callv (pc := 147) (as := []) d6010_147 jL_6_42 jM_Tx_advance rfl (by decide) (sK2 B8.1.1) rfl (by exact Nat.le_of_ble_eq_true rfl) (t_Tx_advance_R (d + 6) B8 ha hN O8) (fun r147 h147 q147 => ?_)
    obtain ⟨rfl, F9, B9⟩ := q147
    refine je_ret (pc := 150) d6010_150 rfl ?_
    refine ⟨rfl, G8.tr F9, ?_⟩
    rw [← E8]
    exact B9
  have K62 : (s.1 = 0 ∧ tkS T N s.2.1 = 91) ∨ (s.1 = 0 ∧ stW T N s.2.1 (wdO 10)) → jx_Ev (d + 10) bc bs 6010 62 [some (.ref 18), some (.int (nI n)), some (.int (b2 (s.1 = 0 ∧ tkS T N s.2.1 = 91))), some (.int (b2 (s.1 = 0 ∧ stW T N s.2.1 (wdO 10)))), none] [] h (fun r0 h' => r0 = none ∧ ruF a h h' ∧ rcI h' a N T (fcR T N (r + 1) s)) := by
    intro o
    refine je_iload1 (pc := 62) d6010_62 rfl ?_
    refine je_bipush (pc := 63) (v := 10) d6010_63 rfl ?_
    refine jn_iclt (pc := 65) (a := (n)) (b := 10) 79 d6010_65 (by decide) (by omega) (by omega) (fun c65 => ?_) (fun c65 => by exfalso; omega)
    refine je_iload3 (pc := 79) d6010_79 rfl ?_
    refine jb_ifeq (pc := 80) 109 d6010_80 (by decide) (fun c80 => ?_) (fun c80 => ?_)
    · refine je_aload0 (pc := 109) d6010_109 rfl ?_
      refine ju_getr (pc := 110) (b := 2) d6010_110 jF_6_16 rfl (sK18 B.1.1) (sR18_0 B.1.1) ?_
      refine ju_callv (pc := 113) (as := []) d6010_113 jL_6_42 jM_Tx_advance rfl (by decide) (sK2 B.1.1) rfl (by exact Nat.le_of_ble_eq_true rfl) (t_Tx_advance_R (d + 6) B ha hN I.1) (fun r113 h113 q113 => ?_)
      obtain ⟨rfl, F5, B5⟩ := q113
      have I5 := av_i I
      refine je_aload0 (pc := 116) d6010_116 rfl ?_
      refine je_iload1 (pc := 117) d6010_117 rfl ?_
      refine je_iconst (pc := 118) (v := 1) d6010_118 rfl ?_
      refine je_iadd (pc := 119) d6010_119 ?_
      refine ju_eqi (v := nI ((n) + 1)) (nI_add (n) 1) ?_
      refine ju_callv (pc := 120) (as := [_]) d6010_120 jL_6_53 jM_Rr_readTest rfl (by decide) (sK18 B5.1.1) rfl (by exact Nat.le_of_ble_eq_true rfl) (G 0 0 _ _ B5 I5) (fun r120 h120 q120 => ?_)
      obtain ⟨rfl, F6, B6⟩ := q120
      have I6 := gd_i (te_gd hN r) I5
      refine je_aload0 (pc := 123) d6010_123 rfl ?_
      refine ju_getr (pc := 124) (b := 2) d6010_124 jF_6_16 rfl (sK18 B6.1.1) (sR18_0 B6.1.1) ?_
      refine ju_geti (pc := 127) d6010_127 jF_6_74 rfl (sK2 B6.1.1) ?_
      refine ju_eqi (v := (if (teR T N r (avR T N s)).1 = 0 then tkS T N (teR T N r (avR T N s)).2.1 else -2)) (rc_sg B6) ?_
      refine je_bipush (pc := 130) (v := 93) d6010_130 rfl ?_
      refine je_iceq (pc := 132) 143 d6010_132 (by decide) (fun c132 => ?_) (fun c132 => ?_)
      · have oo := o.resolve_right c80
        have c9 := (sg_x (by decide)).mp c132
        exact K143 _ _ (F5.tr F6) B6 I6.1 (by rw [fcR, if_neg c80, if_pos oo]; show _ = clR T N (teR T N r (avR T N s)); unfold clR; rw [if_pos c9.2])
      · refine je_aload0 (pc := 135) d6010_135 rfl ?_
        refine ju_getr (pc := 136) (b := 2) d6010_136 jF_6_16 rfl (sK18 B6.1.1) (sR18_0 B6.1.1) ?_
        refine je_iconst (pc := 139) (v := 0) d6010_139 rfl ?_
        refine ju_callv (pc := 140) (as := [_]) d6010_140 jL_6_38 jM_Tx_blame rfl (by decide) (sK2 B6.1.1) rfl (by exact Nat.le_of_ble_eq_true rfl) (t_Tx_blame_R (d + 8) (k := 0) (by decide) B6 ha hN I6.1) (fun r140 h140 q140 => ?_)
        obtain ⟨rfl, F7, B7⟩ := q140
        have oo := o.resolve_right c80
        have c9 := fun z => c132 ((sg_x (by decide)).mpr z)
        have e9 : avR T N (blR 0 (teR T N r (avR T N s))) = fcR T N (r + 1) s := by
          have nz := bl_nz (k := 0) I6.1 hN (by decide)
          rw [fcR, if_neg c80, if_pos oo]
          show _ = clR T N (teR T N r (avR T N s))
          unfold clR
          rw [av_f nz]
          by_cases y : tkS T N (teR T N r (avR T N s)).2.1 = 93
          · have nf : ¬ (teR T N r (avR T N s)).1 = 0 := fun f => c9 ⟨f, y⟩
            rw [if_pos y, bl_f nf, av_f nf]
          · rw [if_neg y]
        exact K143 _ _ ((F5.tr F6).tr F7) B7 (bl_i I6.1 hN (by decide)).1 e9
    · refine je_aload0 (pc := 83) d6010_83 rfl ?_
      refine ju_getr (pc := 84) (b := 2) d6010_84 jF_6_16 rfl (sK18 B.1.1) (sR18_0 B.1.1) ?_
      refine ju_callv (pc := 87) (as := []) d6010_87 jL_6_42 jM_Tx_advance rfl (by decide) (sK2 B.1.1) rfl (by exact Nat.le_of_ble_eq_true rfl) (t_Tx_advance_R (d + 6) B ha hN I.1) (fun r87 h87 q87 => ?_)
      obtain ⟨rfl, F5, B5⟩ := q87
      have I5 := av_i I
      refine je_aload0 (pc := 90) d6010_90 rfl ?_
      refine je_iload1 (pc := 91) d6010_91 rfl ?_
      refine je_iconst (pc := 92) (v := 1) d6010_92 rfl ?_
      refine je_iadd (pc := 93) d6010_93 ?_
      refine ju_eqi (v := nI ((n) + 1)) (nI_add (n) 1) ?_
      refine ju_callv (pc := 94) (as := [_]) d6010_94 jL_6_64 jM_Rr_readFact rfl (by decide) (sK18 B5.1.1) rfl (by exact Nat.le_of_ble_eq_true rfl) (F 0 0 _ _ B5 I5) (fun r94 h94 q94 => ?_)
      obtain ⟨rfl, F6, B6⟩ := q94
      have I6 := gd_i (fc_gd hN r) I5
      refine je_aload0 (pc := 97) d6010_97 rfl ?_
      refine ju_getr (pc := 98) (b := a) d6010_98 jF_6_10 rfl (sK18 B6.1.1) B6.1.2.2.1 ?_
      refine je_bipush (pc := 101) (v := -13) d6010_101 rfl ?_
      refine ju_callv (pc := 103) (as := [_]) d6010_103 jL_6_67 jM_Ru_add rfl (by decide) B6.1.2.1.1 rfl (by exact Nat.le_of_ble_eq_true rfl) (t_Ru_add (d + 8) _ B6 ha (fun f => by have := i_len I6 hN f; omega)) (fun r103 h103 q103 => ?_)
      obtain ⟨rfl, F7, B7⟩ := q103
      refine je_goto (pc := 106) 150 d6010_106 (by decide) ?_
      refine je_ret (pc := 150) d6010_150 rfl ?_
      rw [fcR, if_pos c80]
      exact ⟨rfl, (F5.tr F6).tr F7, B7⟩
  refine je_aload0 (pc := 0) d6010_0 rfl ?_
  refine ju_getr (pc := 1) (b := 2) d6010_1 jF_6_16 rfl (sK18 B.1.1) (sR18_0 B.1.1) ?_
  refine ju_geti (pc := 4) d6010_4 jF_6_74 rfl (sK2 B.1.1) ?_
  refine ju_eqi (v := (if s.1 = 0 then tkS T N s.2.1 else -2)) (rc_sg B) ?_
  refine je_bipush (pc := 7) (v := 91) d6010_7 rfl ?_
  refine ju_tern2 (pc := 9) (V := (b2 (s.1 = 0 ∧ tkS T N s.2.1 = 91))) 17 ?_ (fun jn9 => ?_)
  · refine ju_istore2 (pc := 17) (lv' := [some _, some _, some _, none, none]) d6010_17 rfl rfl ?_
    refine je_aload0 (pc := 18) d6010_18 rfl ?_
    refine ju_getr (pc := 19) (b := 2) d6010_19 jF_6_16 rfl (sK18 B.1.1) (sR18_0 B.1.1) ?_
    refine je_ldcS (pc := 22) (e := 10) d6010_22 rfl ?_
    refine ju_callv (pc := 24) (as := [_]) d6010_24 jL_6_34 jM_Tx_isWord rfl (by decide) (sK2 B.1.1) rfl (by exact Nat.le_of_ble_eq_true rfl) (t_Tx_isWord_R (d + 4) (e := 10) (by decide) B hN hT I.1) (fun r24 h24 q24 => ?_)
    obtain ⟨rfl, e24⟩ := q24
    obtain rfl := e24.symm
    refine ju_istore3 (pc := 27) (lv' := [some _, some _, some _, some _, none]) d6010_27 rfl rfl ?_
    refine je_iload2 (pc := 28) d6010_28 rfl ?_
    refine jb_ifne (pc := 29) 62 d6010_29 (by decide) (fun c29 => ?_) (fun c29 => ?_)
    · exact K62 (Or.inl c29)
    · refine je_iload3 (pc := 32) d6010_32 rfl ?_
      refine jb_ifne (pc := 33) 62 d6010_33 (by decide) (fun c33 => ?_) (fun c33 => ?_)
      · exact K62 (Or.inr c33)
      · refine je_aload0 (pc := 36) d6010_36 rfl ?_
        refine ju_callv (pc := 37) (as := []) d6010_37 jL_6_48 jM_Rr_readSum rfl (by decide) (sK18 B.1.1) rfl (by exact Nat.le_of_ble_eq_true rfl) (t_Rr_readSum (d + 1) B ha hN hT I) (fun r37 h37 q37 => ?_)
        obtain ⟨rfl, F1, B1⟩ := q37
        have I1 := gd_i (sm_gd hN) I
        refine je_aload0 (pc := 40) d6010_40 rfl ?_
        refine ju_callv (pc := 41) (as := []) d6010_41 jL_6_79 jM_Rr_takeComparison rfl (by decide) (sK18 B1.1.1) rfl (by exact Nat.le_of_ble_eq_true rfl) (t_Rr_takeComparison (d + 5) B1 ha hN hT I1) (fun r41 h41 q41 => ?_)
        obtain ⟨rfl, F2, B2⟩ := q41
        have I2 : iR T N (avR T N (cnR (if opZ (cmR T N) (smR T N s) = 0 then blR 0 (smR T N s) else smR T N s))) := av_i (cn_i (ik_i I1 hN) hN)
        refine ju_istore (pc := 44) (lv' := [some _, some _, some _, some _, some _]) d6010_44 rfl rfl ?_
        refine je_aload0 (pc := 46) d6010_46 rfl ?_
        refine ju_callv (pc := 47) (as := []) d6010_47 jL_6_48 jM_Rr_readSum rfl (by decide) (sK18 B2.1.1) rfl (by exact Nat.le_of_ble_eq_true rfl) (t_Rr_readSum (d + 1) B2 ha hN hT I2) (fun r47 h47 q47 => ?_)
        obtain ⟨rfl, F3, B3⟩ := q47
        have I3 := gd_i (sm_gd hN) I2
        refine je_aload0 (pc := 50) d6010_50 rfl ?_
        refine ju_getr (pc := 51) (b := a) d6010_51 jF_6_10 rfl (sK18 B3.1.1) B3.1.2.2.1 ?_
        refine je_iload (pc := 54) d6010_54 rfl ?_
        refine ju_callv (pc := 56) (as := [_]) d6010_56 jL_6_67 jM_Ru_add rfl (by decide) B3.1.2.1.1 rfl (by exact Nat.le_of_ble_eq_true rfl) (t_Ru_add (d + 8) _ B3 ha (fun f => by have := i_len I3 hN f; omega)) (fun r56 h56 q56 => ?_)
        obtain ⟨rfl, F4, B4⟩ := q56
        rw [cp_e hN I1.1] at B4
        refine je_goto (pc := 59) 150 d6010_59 (by decide) ?_
        refine je_ret (pc := 150) d6010_150 rfl ?_
        rw [fcR, if_neg c33, if_neg c29]
        exact ⟨rfl, ((F1.tr F2).tr F3).tr F4, B4⟩
  · refine je_icne (pc := 9) 16 d6010_9 (by decide) (fun c9 => ?_) (fun c9 => ?_)
    · refine je_iconst (pc := 16) (v := 0) d6010_16 rfl ?_
      refine ju_eqi (v := (b2 (s.1 = 0 ∧ tkS T N s.2.1 = 91))) (b2_f (fun z => c9 ((sg_x (by decide)).mpr z))).symm ?_
      exact jn9
    · refine je_iconst (pc := 12) (v := 1) d6010_12 rfl ?_
      refine je_goto (pc := 13) 17 d6010_13 (by decide) ?_
      refine ju_eqi (v := (b2 (s.1 = 0 ∧ tkS T N s.2.1 = 91))) (b2_t ((sg_x (by decide)).mp c9)).symm ?_
      exact jn9
theorem t_Rr_facts {a N : Nat} {T : Nat → Int32} (ha : 125 ≤ a) (hN : N ≤ 400) (hT : bytT T N) : ∀ (r D n bc bs : Nat) (h : jx_H) (s : RS), 2 * r ≤ D → n + r = 10 → rcI h a N T s → iR T N s → jx_Tr (D + 9) bc bs 6010 [.ref 18, .int (nI n)] h (fun r0 h' => r0 = none ∧ ruF a h h' ∧ rcI h' a N T (fcR T N r s))
  | 0, D, n, bc, bs, h, s, _, hn, B, I => t_Rr_readFact_0 D B ha hN hT (by omega) I
  | r + 1, D, n, bc, bs, h, s, hD, hn, B, I => by
    obtain ⟨E, rfl⟩ : ∃ E, D = E + 2 := ⟨D - 2, by omega⟩
    exact t_Rr_readFact_s (E + 1) (r := r) (n := n) (fun bc bs h s B I => t_Rr_facts ha hN hT r (E + 1) (n + 1) bc bs h s (by omega) (by omega) B I) (fun bc bs h s B I => t_Rr_readTest E (r := r) (n := n + 1) (fun bc bs h s B I => t_Rr_facts ha hN hT r E (n + 1) bc bs h s (by omega) (by omega) B I) B ha hN hT (by omega) I) B ha hN hT (by omega) I
theorem t_Rr_readTest_10 (d : Nat) {bc bs : Nat} {h : jx_H} {a N : Nat} {T : Nat → Int32} {s : RS} (B : rcI h a N T s) (ha : 125 ≤ a) (hN : N ≤ 400) (hT : bytT T N) (I : iR T N s) : jx_Tr (d + 30) bc bs 6009 [.ref 18, .int 0] h (fun r0 h' => r0 = none ∧ ruF a h h' ∧ rcI h' a N T (teR T N 10 s)) := t_Rr_readTest (d + 20) (r := 10) (n := 0) (fun bc bs h s B I => t_Rr_facts ha hN hT 10 (d + 20) 0 bc bs h s (by omega) (by omega) B I) B ha hN hT (by omega) I
