/-! a rule told: the class reads values and sums -/
set_option maxHeartbeats 2000000 in
theorem t_Rr_nameOf (d : Nat) {bc bs : Nat} {h : jx_H} {k : Nat} (hk : k < 12) : jx_Tr (d + 1) bc bs 6005 [.int (nI k)] h (fun r h' => r = some (.ref (1000000 + (11 + k))) ∧ h' = h) := by
  refine jx_tr jM_Rr_nameOf rfl rfl (lv := [some (.int (nI k))]) rfl ?_
  refine je_iload0 (pc := 0) d6005_0 rfl ?_
  by_cases s1_0 : nI k = 0
  · refine je_table (pc := 1) 60 d6005_1 (by rw [s1_0]; decide) (by rw [s1_0]; decide) (off := 59) (by rw [s1_0]; rfl) (by decide) ?_
    refine je_ldcS (pc := 60) (e := 11) d6005_60 rfl ?_
    refine je_aret (pc := 62) d6005_62 rfl ?_
    have ek : k = 0 := (nI_eq (by omega) (by decide)).mp s1_0
    subst ek
    exact ⟨rfl, rfl⟩
  by_cases s1_1 : nI k = 1
  · refine je_table (pc := 1) 63 d6005_1 (by rw [s1_1]; decide) (by rw [s1_1]; decide) (off := 62) (by rw [s1_1]; rfl) (by decide) ?_
    refine je_ldcS (pc := 63) (e := 12) d6005_63 rfl ?_
    refine je_aret (pc := 65) d6005_65 rfl ?_
    have ek : k = 1 := (nI_eq (by omega) (by decide)).mp s1_1
    subst ek
    exact ⟨rfl, rfl⟩
  by_cases s1_2 : nI k = 2
  · refine je_table (pc := 1) 66 d6005_1 (by rw [s1_2]; decide) (by rw [s1_2]; decide) (off := 65) (by rw [s1_2]; rfl) (by decide) ?_
    refine je_ldcS (pc := 66) (e := 13) d6005_66 rfl ?_
    refine je_aret (pc := 68) d6005_68 rfl ?_
    have ek : k = 2 := (nI_eq (by omega) (by decide)).mp s1_2
    subst ek
    exact ⟨rfl, rfl⟩
  by_cases s1_3 : nI k = 3
  · refine je_table (pc := 1) 69 d6005_1 (by rw [s1_3]; decide) (by rw [s1_3]; decide) (off := 68) (by rw [s1_3]; rfl) (by decide) ?_
    refine je_ldcS (pc := 69) (e := 14) d6005_69 rfl ?_
    refine je_aret (pc := 71) d6005_71 rfl ?_
    have ek : k = 3 := (nI_eq (by omega) (by decide)).mp s1_3
    subst ek
    exact ⟨rfl, rfl⟩
  by_cases s1_4 : nI k = 4
  · refine je_table (pc := 1) 72 d6005_1 (by rw [s1_4]; decide) (by rw [s1_4]; decide) (off := 71) (by rw [s1_4]; rfl) (by decide) ?_
    refine je_ldcS (pc := 72) (e := 15) d6005_72 rfl ?_
    refine je_aret (pc := 74) d6005_74 rfl ?_
    have ek : k = 4 := (nI_eq (by omega) (by decide)).mp s1_4
    subst ek
    exact ⟨rfl, rfl⟩
  by_cases s1_5 : nI k = 5
  · refine je_table (pc := 1) 75 d6005_1 (by rw [s1_5]; decide) (by rw [s1_5]; decide) (off := 74) (by rw [s1_5]; rfl) (by decide) ?_
    refine je_ldcS (pc := 75) (e := 16) d6005_75 rfl ?_
    refine je_aret (pc := 77) d6005_77 rfl ?_
    have ek : k = 5 := (nI_eq (by omega) (by decide)).mp s1_5
    subst ek
    exact ⟨rfl, rfl⟩
  by_cases s1_6 : nI k = 6
  · refine je_table (pc := 1) 78 d6005_1 (by rw [s1_6]; decide) (by rw [s1_6]; decide) (off := 77) (by rw [s1_6]; rfl) (by decide) ?_
    refine je_ldcS (pc := 78) (e := 17) d6005_78 rfl ?_
    refine je_aret (pc := 80) d6005_80 rfl ?_
    have ek : k = 6 := (nI_eq (by omega) (by decide)).mp s1_6
    subst ek
    exact ⟨rfl, rfl⟩
  by_cases s1_7 : nI k = 7
  · refine je_table (pc := 1) 81 d6005_1 (by rw [s1_7]; decide) (by rw [s1_7]; decide) (off := 80) (by rw [s1_7]; rfl) (by decide) ?_
    refine je_ldcS (pc := 81) (e := 18) d6005_81 rfl ?_
    refine je_aret (pc := 83) d6005_83 rfl ?_
    have ek : k = 7 := (nI_eq (by omega) (by decide)).mp s1_7
    subst ek
    exact ⟨rfl, rfl⟩
  by_cases s1_8 : nI k = 8
  · refine je_table (pc := 1) 84 d6005_1 (by rw [s1_8]; decide) (by rw [s1_8]; decide) (off := 83) (by rw [s1_8]; rfl) (by decide) ?_
    refine je_ldcS (pc := 84) (e := 19) d6005_84 rfl ?_
    refine je_aret (pc := 86) d6005_86 rfl ?_
    have ek : k = 8 := (nI_eq (by omega) (by decide)).mp s1_8
    subst ek
    exact ⟨rfl, rfl⟩
  by_cases s1_9 : nI k = 9
  · refine je_table (pc := 1) 87 d6005_1 (by rw [s1_9]; decide) (by rw [s1_9]; decide) (off := 86) (by rw [s1_9]; rfl) (by decide) ?_
    refine je_ldcS (pc := 87) (e := 20) d6005_87 rfl ?_
    refine je_aret (pc := 89) d6005_89 rfl ?_
    have ek : k = 9 := (nI_eq (by omega) (by decide)).mp s1_9
    subst ek
    exact ⟨rfl, rfl⟩
  by_cases s1_10 : nI k = 10
  · refine je_table (pc := 1) 90 d6005_1 (by rw [s1_10]; decide) (by rw [s1_10]; decide) (off := 89) (by rw [s1_10]; rfl) (by decide) ?_
    refine je_ldcS (pc := 90) (e := 21) d6005_90 rfl ?_
    refine je_aret (pc := 92) d6005_92 rfl ?_
    have ek : k = 10 := (nI_eq (by omega) (by decide)).mp s1_10
    subst ek
    exact ⟨rfl, rfl⟩
  have ns1_0 := lv_neT s1_0 (a := 0) rfl
  have ns1_1 := lv_neT s1_1 (a := 1) rfl
  have ns1_2 := lv_neT s1_2 (a := 2) rfl
  have ns1_3 := lv_neT s1_3 (a := 3) rfl
  have ns1_4 := lv_neT s1_4 (a := 4) rfl
  have ns1_5 := lv_neT s1_5 (a := 5) rfl
  have ns1_6 := lv_neT s1_6 (a := 6) rfl
  have ns1_7 := lv_neT s1_7 (a := 7) rfl
  have ns1_8 := lv_neT s1_8 (a := 8) rfl
  have ns1_9 := lv_neT s1_9 (a := 9) rfl
  have ns1_10 := lv_neT s1_10 (a := 10) rfl
  refine je_tableO (pc := 1) 93 d6005_1 (by omega) (by decide) ?_
  refine je_ldcS (pc := 93) (e := 22) d6005_93 rfl ?_
  refine je_aret (pc := 95) d6005_95 rfl ?_
  have ek : k = 11 := by
    have z0 : k ≠ 0 := fun z => s1_0 (by rw [z]; rfl)
    have z1 : k ≠ 1 := fun z => s1_1 (by rw [z]; rfl)
    have z2 : k ≠ 2 := fun z => s1_2 (by rw [z]; rfl)
    have z3 : k ≠ 3 := fun z => s1_3 (by rw [z]; rfl)
    have z4 : k ≠ 4 := fun z => s1_4 (by rw [z]; rfl)
    have z5 : k ≠ 5 := fun z => s1_5 (by rw [z]; rfl)
    have z6 : k ≠ 6 := fun z => s1_6 (by rw [z]; rfl)
    have z7 : k ≠ 7 := fun z => s1_7 (by rw [z]; rfl)
    have z8 : k ≠ 8 := fun z => s1_8 (by rw [z]; rfl)
    have z9 : k ≠ 9 := fun z => s1_9 (by rw [z]; rfl)
    have z10 : k ≠ 10 := fun z => s1_10 (by rw [z]; rfl)
    omega
  subst ek
  exact ⟨rfl, rfl⟩
theorem kw_is {T : Nat → Int32} {N b : Nat} (h : kwR T N b < 12) : stW T N b (wdO (11 + kwR T N b)) := by
  have z := sp_out (c := fun k => decide (¬ stW T N b (wdO (11 + k)))) (N := 12) (p := 0)
  exact Decidable.not_not.mp (fun y => z ⟨h, decide_eq_true y⟩)
theorem kw_no {T : Nat → Int32} {N b j : Nat} (h : j < kwR T N b) : ¬ stW T N b (wdO (11 + j)) := by
  have z := (sp_in (c := fun k => decide (¬ stW T N b (wdO (11 + k)))) (N := 12) (p := 0) (k := j) (by rw [Nat.zero_add]; exact h)).2
  rw [Nat.zero_add] at z
  exact of_decide_eq_true z
set_option maxHeartbeats 2000000 in
theorem t_Rr_wordSign (d : Nat) {bc bs : Nat} {h : jx_H} {a N : Nat} {T : Nat → Int32} {s : RS} (B : rcI h a N T s) (ha : 125 ≤ a) (hN : N ≤ 400) (hT : bytT T N) (I : iR T N s) (f : s.1 = 0) : jx_Tr (d + 6) bc bs 6004 [.ref 18] h (fun r h' => r = some (.int (if kwR T N s.2.1 = 12 then 100000 else nI (100000 + kwR T N s.2.1))) ∧ ruF a h h' ∧ rcI h' a N T (if kwR T N s.2.1 = 12 then blR 0 s else s)) := by
  refine jx_tr jM_Rr_wordSign rfl rfl (lv := [some (.ref 18), none]) rfl ?_
  have kl := kw_le (T := T) (N := N) (b := s.2.1)
  refine je_iconst (pc := 0) (v := 0) d6004_0 rfl ?_
  refine ju_istore1 (pc := 1) (lv' := [some _, some _]) d6004_1 rfl rfl ?_
  refine je_loop (σ := Unit) (kwR T N s.2.1) (fun k xx => [some (.ref 18), some (.int (nI k))]) (fun _ _ h' => h' = h) (fun k xx h' hk e kk => ?_) (fun xx h' e => ?_) (0) () h (by omega) rfl
  · obtain rfl := e.symm
    refine je_iload1 (pc := 2) d6004_2 rfl ?_
    refine je_bipush (pc := 3) (v := 12) d6004_3 rfl ?_
    refine jn_icge (pc := 5) (a := (k)) (b := 12) 33 d6004_5 (by decide) (by omega) (by omega) (fun c5 => by exfalso; omega) (fun c5 => ?_)
    refine je_aload0 (pc := 8) d6004_8 rfl ?_
    refine ju_getr (pc := 9) (b := 2) d6004_9 jF_6_16 rfl (sK18 B.1.1) (sR18_0 B.1.1) ?_
    refine je_iload1 (pc := 12) d6004_12 rfl ?_
    refine ju_calls (pc := 13) (as := [_]) d6004_13 jL_6_107 jM_Rr_nameOf rfl rfl (by exact Nat.le_of_ble_eq_true rfl) (t_Rr_nameOf (d + 4) (k := k) (by omega)) (fun r13 h13 q13 => ?_)
    obtain ⟨rfl, e13⟩ := q13
    obtain rfl := e13.symm
    refine ju_callv (pc := 16) (as := [_]) d6004_16 jL_6_34 jM_Tx_isWord rfl (by decide) (sK2 B.1.1) rfl (by exact Nat.le_of_ble_eq_true rfl) (t_Tx_isWord_R (d + 0) (e := 11 + k) (by omega) B hN hT I.1) (fun r16 h16 q16 => ?_)
    obtain ⟨rfl, e16⟩ := q16
    obtain rfl := e16.symm
    refine jb_ifeq (pc := 19) 27 d6004_19 (by decide) (fun c19 => ?_) (fun c19 => absurd c19 (fun z => kw_no hk z.2))
    refine ju_incN (pc := 27) (v := nI ((k) + 1)) (lv' := [some _, some _]) d6004_27 rfl (nI_1 (k)) rfl ?_
    refine je_goto (pc := 30) 2 d6004_30 (by decide) ?_
    refine kk () _ rfl
  · obtain rfl := e.symm
    refine je_iload1 (pc := 2) d6004_2 rfl ?_
    refine je_bipush (pc := 3) (v := 12) d6004_3 rfl ?_
    refine jn_icge (pc := 5) (a := ((kwR T N s.2.1))) (b := 12) 33 d6004_5 (by decide) (by omega) (by omega) (fun c5 => ?_) (fun c5 => ?_)
    · refine je_aload0 (pc := 33) d6004_33 rfl ?_
      refine ju_getr (pc := 34) (b := 2) d6004_34 jF_6_16 rfl (sK18 B.1.1) (sR18_0 B.1.1) ?_
      refine je_iconst (pc := 37) (v := 0) d6004_37 rfl ?_
      refine ju_callv (pc := 38) (as := [_]) d6004_38 jL_6_38 jM_Tx_blame rfl (by decide) (sK2 B.1.1) rfl (by exact Nat.le_of_ble_eq_true rfl) (t_Tx_blame_R (d + 4) (k := 0) (by decide) B ha hN I.1) (fun r38 h38 q38 => ?_)
      obtain ⟨rfl, F1, B1⟩ := q38
      refine je_ldc (pc := 41) d6004_41 jK_6_111 ?_
      refine je_iret (pc := 43) d6004_43 rfl ?_
      have e12 : kwR T N s.2.1 = 12 := by omega
      rw [if_pos e12, if_pos e12]
      exact ⟨rfl, F1, B1⟩
    · refine je_aload0 (pc := 8) d6004_8 rfl ?_
      refine ju_getr (pc := 9) (b := 2) d6004_9 jF_6_16 rfl (sK18 B.1.1) (sR18_0 B.1.1) ?_
      refine je_iload1 (pc := 12) d6004_12 rfl ?_
      refine ju_calls (pc := 13) (as := [_]) d6004_13 jL_6_107 jM_Rr_nameOf rfl rfl (by exact Nat.le_of_ble_eq_true rfl) (t_Rr_nameOf (d + 4) (k := (kwR T N s.2.1)) (by omega)) (fun r13 h13 q13 => ?_)
      obtain ⟨rfl, e13⟩ := q13
      obtain rfl := e13.symm
      refine ju_callv (pc := 16) (as := [_]) d6004_16 jL_6_34 jM_Tx_isWord rfl (by decide) (sK2 B.1.1) rfl (by exact Nat.le_of_ble_eq_true rfl) (t_Tx_isWord_R (d + 0) (e := 11 + (kwR T N s.2.1)) (by omega) B hN hT I.1) (fun r16 h16 q16 => ?_)
      obtain ⟨rfl, e16⟩ := q16
      obtain rfl := e16.symm
      refine jb_ifeq (pc := 19) 27 d6004_19 (by decide) (fun c19 => absurd c19 (fun z => z ⟨f, kw_is (by omega)⟩)) (fun c19 => ?_)
      refine je_ldc (pc := 22) d6004_22 jK_6_111 ?_
      refine je_iload1 (pc := 24) d6004_24 rfl ?_
      refine je_iadd (pc := 25) d6004_25 ?_
      refine je_iret (pc := 26) d6004_26 rfl ?_
      have e12 : ¬ kwR T N s.2.1 = 12 := by omega
      rw [if_neg e12, if_neg e12]
      exact ⟨by rw [show (100000 : Int32) = nI 100000 from rfl, nI_add], ruF.rf, B⟩
def nmR (T : Nat → Int32) (N : Nat) (s : RS) : RS := match nbK T N s.2.1 0 99999 with
  | some k => blR k s
  | none => s
theorem t_Tx_number_R (d : Nat) {bc bs : Nat} {h : jx_H} {a N : Nat} {T : Nat → Int32} {s : RS} (B : rcI h a N T s) (ha : 125 ≤ a) (hN : N ≤ 400) (hT : bytT T N) (I : iR T N s) : jx_Tr (d + 3) bc bs 1010 [.ref 2, .int 0, .int 99999] h (fun r h' => ∃ v, r = some (.int v) ∧ ruF a h h' ∧ rcI h' a N T (nmR T N s) ∧ (s.1 = 0 → nbK T N s.2.1 0 99999 = none → v = nI (vlN T s.2.1 (fv5 (dgs T N s.2.1))))) := by
  obtain ⟨⟨H, RL, RA, eT⟩, b1, b2, b3, b4, b5⟩ := id B
  by_cases f : s.1 = 0
  · obtain ⟨A, c2, c3, c4⟩ := b5 f
    refine (t_Tx_number d (N := N) (b := s.2.1) 0 99999 H A hN (I.1 f).1 (by rw [eT]; exact hT)).mono (fun r h' e => ?_)
    unfold nbP at e
    rw [eT] at e
    unfold nmR
    have hb : s.2.1 ≤ 400 := by have := (I.1 f).1; omega
    cases hk : nbK T N s.2.1 0 99999 with
    | some c =>
      obtain ⟨e1, e2, e3⟩ := e.1 c hk
      obtain ⟨x1, x2⟩ := txS.bad (p := 0) b1 e3 hb e1
      dsimp only
      rw [bl_o f]
      obtain ⟨y1, y2⟩ := B.tx (s' := (fltI s.2.1 c, s.2)) ha x2 x1.1 x1.2.1 x1.2.2.2 (fun z => absurd z (flt_nz hb e1))
      exact ⟨_, e2, y1, y2, fun _ z => nomatch z⟩
    | none =>
      obtain ⟨e2, rfl⟩ := e.2 hk
      exact ⟨_, e2, ruF.rf, B, fun _ _ => rfl⟩
  · refine (t_Tx_number_n d 0 99999 H b2 f (b3 f)).mono (fun r h' e => ?_)
    obtain ⟨e2, rfl⟩ := e
    have en : nmR T N s = s := by
      unfold nmR
      split
      · exact bl_f f
      · rfl
    rw [en]
    exact ⟨_, e2, ruF.rf, B, fun z => absurd z f⟩
theorem va_w {T : Nat → Int32} {N : Nat} {s : RS} {x : Int32} (c : s.2.1 < N ∧ isLt_ (T s.2.1) = true) (hN : N ≤ 400) (O : okR T N s) (hx : ¬ kwR T N s.2.1 = 12 → x = nI (100000 + kwR T N s.2.1)) : adR x (avR T N (cnR (if kwR T N s.2.1 = 12 then blR 0 s else s))) = vaR T N s := by
  unfold vaR vkR
  rw [if_pos c]
  by_cases k : kwR T N s.2.1 = 12
  · rw [if_pos k, if_pos k]
    have nz := bl_nz (k := 0) O hN (by decide)
    rw [cn_f nz, av_f nz, ad_f nz]
  · rw [if_neg k, if_neg k, hx k]
    unfold vxR
    rw [if_pos c]
theorem va_n {T : Nat → Int32} {N : Nat} {s : RS} {x : Int32} (c : ¬ (s.2.1 < N ∧ isLt_ (T s.2.1) = true)) (hN : N ≤ 400) (O : okR T N s) (hx : s.1 = 0 → nbK T N s.2.1 0 99999 = none → x = nI (vlN T s.2.1 (fv5 (dgs T N s.2.1)))) : adR x (avR T N (cnR (nmR T N s))) = vaR T N s := by
  unfold vaR vkR nmR
  rw [if_neg c]
  cases hk : nbK T N s.2.1 0 99999 with
  | some k =>
    dsimp only
    have nz := bl_nz (k := k) O hN (nbK_c hk)
    rw [cn_f nz, av_f nz, ad_f nz]
  | none =>
    dsimp only
    by_cases f : s.1 = 0
    · rw [hx f hk]
      unfold vxR
      rw [if_neg c]
    · rw [cn_f f, av_f f, ad_f f, ad_f f]
theorem va_x {T : Nat → Int32} {N : Nat} {s : RS} {x : Int32} (f : ¬ s.1 = 0) : adR x (avR T N (cnR (nmR T N s))) = vaR T N s := by
  have en : nmR T N s = s := by
    unfold nmR
    split
    · exact bl_f f
    · rfl
  rw [en, cn_f f, av_f f, ad_f f, va_f f]
theorem nm_i {T : Nat → Int32} {N : Nat} {s : RS} (I : iR T N s) (hN : N ≤ 400) : iR T N (nmR T N s) := by
  unfold nmR
  split
  · rename_i k hk
    exact bl_i I.1 hN (nbK_c hk)
  · exact I
theorem ik_i {T : Nat → Int32} {N : Nat} {s : RS} {P : Prop} {_ : Decidable P} (I : iR T N s) (hN : N ≤ 400) : iR T N (if P then blR 0 s else s) := by
  split
  · exact bl_i I.1 hN (by decide)
  · exact I
set_option maxHeartbeats 2000000 in
theorem t_Rr_readValue (d : Nat) {bc bs : Nat} {h : jx_H} {a N : Nat} {T : Nat → Int32} {s : RS} (B : rcI h a N T s) (ha : 125 ≤ a) (hN : N ≤ 400) (hT : bytT T N) (I : iR T N s) : jx_Tr (d + 7) bc bs 6003 [.ref 18] h (fun r h' => r = none ∧ ruF a h h' ∧ rcI h' a N T (vaR T N s)) := by
  refine jx_tr jM_Rr_readValue rfl rfl (lv := [some (.ref 18), none]) rfl ?_
  have K30 : ∀ (h2 : jx_H) (s2 : RS) (x : Int32), ruF a h h2 → rcI h2 a N T s2 → iR T N s2 → adR x (avR T N (cnR s2)) = vaR T N s → jx_Ev (d + 7) bc bs 6003 30 [some (.ref 18), none] [.int x] h2 (fun r h' => r = none ∧ ruF a h h' ∧ rcI h' a N T (vaR T N s)) := by
    intro h2 s2 x G0 G1 G2 G3
    refine ju_istore1 (pc := 30) (lv' := [some _, some _]) d6003_30 rfl rfl ?_
    refine je_aload0 (pc := 31) d6003_31 rfl ?_
    refine ju_callv (pc := 32) (as := []) d6003_32 jL_6_87 jM_Rr_countValue rfl (by decide) (sK18 G1.1.1) rfl (by exact Nat.le_of_ble_eq_true rfl) (t_Rr_countValue (d + 4) G1 ha hN hT G2) (fun r32 h32 q32 => ?_)
    obtain ⟨rfl, F3, B3⟩ := q32
    have I3 := cn_i G2 hN
    refine je_aload0 (pc := 35) d6003_35 rfl ?_
    refine ju_getr (pc := 36) (b := 2) d6003_36 jF_6_16 rfl (sK18 B3.1.1) (sR18_0 B3.1.1) ?_
    refine ju_callv (pc := 39) (as := []) d6003_39 jL_6_42 jM_Tx_advance rfl (by decide) (sK2 B3.1.1) rfl (by exact Nat.le_of_ble_eq_true rfl) (t_Tx_advance_R (d + 3) B3 ha hN I3.1) (fun r39 h39 q39 => ?_)
    obtain ⟨rfl, F4, B4⟩ := q39
    have I4 := av_i I3
    refine je_aload0 (pc := 42) d6003_42 rfl ?_
    refine ju_getr (pc := 43) (b := a) d6003_43 jF_6_10 rfl (sK18 B4.1.1) B4.1.2.2.1 ?_
    refine je_iload1 (pc := 46) d6003_46 rfl ?_
    refine ju_callv (pc := 47) (as := [_]) d6003_47 jL_6_67 jM_Ru_add rfl (by decide) B4.1.2.1.1 rfl (by exact Nat.le_of_ble_eq_true rfl) (t_Ru_add (d + 5) _ B4 ha (fun f => by have := i_len I4 hN f; omega)) (fun r47 h47 q47 => ?_)
    obtain ⟨rfl, F5, B5⟩ := q47
    refine je_ret (pc := 50) d6003_50 rfl ?_
    rw [G3] at B5
    exact ⟨rfl, ((G0.tr F3).tr F4).tr F5, B5⟩
  by_cases f : s.1 = 0
  · have A := (B.2.2.2.2.2 f).1
    have eS : h.2.1 2 2 = tkS T N s.2.1 := by rw [← B.1.2.2.2]; exact A.2.2.2.1
    refine je_aload0 (pc := 0) d6003_0 rfl ?_
    refine ju_getr (pc := 1) (b := 2) d6003_1 jF_6_16 rfl (sK18 B.1.1) (sR18_0 B.1.1) ?_
    refine ju_geti (pc := 4) d6003_4 jF_6_74 rfl (sK2 B.1.1) ?_
    refine ju_eqi (v := tkS T N s.2.1) eS ?_
    refine je_sipush (pc := 7) (v := 257) d6003_7 rfl ?_
    refine je_icne (pc := 10) 20 d6003_10 (by decide) (fun c10 => ?_) (fun c10 => ?_)
    · refine je_aload0 (pc := 20) d6003_20 rfl ?_
      refine ju_getr (pc := 21) (b := 2) d6003_21 jF_6_16 rfl (sK18 B.1.1) (sR18_0 B.1.1) ?_
      refine je_iconst (pc := 24) (v := 0) d6003_24 rfl ?_
      refine je_ldc (pc := 25) d6003_25 jK_6_102 ?_
      refine ju_callv (pc := 27) (as := [_, _]) d6003_27 jL_6_103 jM_Tx_number rfl (by decide) (sK2 B.1.1) rfl (by exact Nat.le_of_ble_eq_true rfl) (t_Tx_number_R (d + 3) B ha hN hT I) (fun r27 h27 q27 => ?_)
      obtain ⟨v, rfl, F1, B1, hv⟩ := q27
      exact K30 _ _ _ F1 B1 (nm_i I hN) (va_n (fun z => c10 ((tkS_257 hT).mpr z)) hN I.1 hv)
    · refine je_aload0 (pc := 13) d6003_13 rfl ?_
      refine ju_callv (pc := 14) (as := []) d6003_14 jL_6_99 jM_Rr_wordSign rfl (by decide) (sK18 B.1.1) rfl (by exact Nat.le_of_ble_eq_true rfl) (t_Rr_wordSign d B ha hN hT I f) (fun r14 h14 q14 => ?_)
      obtain ⟨rfl, F1, B1⟩ := q14
      refine je_goto (pc := 17) 30 d6003_17 (by decide) ?_
      exact K30 _ _ _ F1 B1 (ik_i I hN) (va_w ((tkS_257 hT).mp c10) hN I.1 (fun z => if_neg z))
  · have eS : h.2.1 2 2 = -2 := B.2.2.2.1 f
    refine je_aload0 (pc := 0) d6003_0 rfl ?_
    refine ju_getr (pc := 1) (b := 2) d6003_1 jF_6_16 rfl (sK18 B.1.1) (sR18_0 B.1.1) ?_
    refine ju_geti (pc := 4) d6003_4 jF_6_74 rfl (sK2 B.1.1) ?_
    refine ju_eqi (v := -2) eS ?_
    refine je_sipush (pc := 7) (v := 257) d6003_7 rfl ?_
    refine je_icne (pc := 10) 20 d6003_10 (by decide) (fun c10 => ?_) (fun c10 => absurd c10 (by decide))
    refine je_aload0 (pc := 20) d6003_20 rfl ?_
    refine ju_getr (pc := 21) (b := 2) d6003_21 jF_6_16 rfl (sK18 B.1.1) (sR18_0 B.1.1) ?_
    refine je_iconst (pc := 24) (v := 0) d6003_24 rfl ?_
    refine je_ldc (pc := 25) d6003_25 jK_6_102 ?_
    refine ju_callv (pc := 27) (as := [_, _]) d6003_27 jL_6_103 jM_Tx_number rfl (by decide) (sK2 B.1.1) rfl (by exact Nat.le_of_ble_eq_true rfl) (t_Tx_number_R (d + 3) B ha hN hT I) (fun r27 h27 q27 => ?_)
    obtain ⟨v, rfl, F1, B1, hv⟩ := q27
    exact K30 _ _ _ F1 B1 (nm_i I hN) (va_x f)
set_option maxHeartbeats 2000000 in
theorem t_Rr_productSign (d : Nat) {bc bs : Nat} {h : jx_H} (x : Int32) : jx_Tr (d + 1) bc bs 6007 [.int x] h (fun r h' => r = some (.int (prX x)) ∧ h' = h) := by
  refine jx_tr jM_Rr_productSign rfl rfl (lv := [some (.int x)]) rfl ?_
  refine je_iload0 (pc := 0) d6007_0 rfl ?_
  by_cases s1_37 : x = 37
  · refine je_lookup (pc := 1) 42 d6007_1 (by decide) (off := 41) (by rw [s1_37]; decide) (by decide) ?_
    refine je_bipush (pc := 42) (v := -5) d6007_42 rfl ?_
    refine je_iret (pc := 44) d6007_44 rfl ?_
    unfold prX
    rw [if_pos s1_37]
    exact ⟨rfl, rfl⟩
  by_cases s1_42 : x = 42
  · refine je_lookup (pc := 1) 36 d6007_1 (by decide) (off := 35) (by rw [s1_42]; decide) (by decide) ?_
    refine je_bipush (pc := 36) (v := -3) d6007_36 rfl ?_
    refine je_iret (pc := 38) d6007_38 rfl ?_
    unfold prX
    rw [if_neg s1_37, if_pos s1_42]
    exact ⟨rfl, rfl⟩
  by_cases s1_47 : x = 47
  · refine je_lookup (pc := 1) 39 d6007_1 (by decide) (off := 38) (by rw [s1_47]; decide) (by decide) ?_
    refine je_bipush (pc := 39) (v := -4) d6007_39 rfl ?_
    refine je_iret (pc := 41) d6007_41 rfl ?_
    unfold prX
    rw [if_neg s1_37, if_neg s1_42, if_pos s1_47]
    exact ⟨rfl, rfl⟩
  refine je_lookup (pc := 1) 45 d6007_1 (by decide) (off := 44) (by show lookupswitch.offset [(Int32.toInt 37, 41), (Int32.toInt 42, 35), (Int32.toInt 47, 38)] 44 (Int32.toInt x) = 44; rw [lv_osw s1_37 rfl]; rw [lv_osw s1_42 rfl]; rw [lv_osw s1_47 rfl]; rfl) (by decide) ?_
  refine je_iconst (pc := 45) (v := 0) d6007_45 rfl ?_
  refine je_iret (pc := 46) d6007_46 rfl ?_
  unfold prX
  rw [if_neg s1_37, if_neg s1_42, if_neg s1_47]
  exact ⟨rfl, rfl⟩
set_option maxHeartbeats 2000000 in
theorem t_Rr_sumSign (d : Nat) {bc bs : Nat} {h : jx_H} (x : Int32) : jx_Tr (d + 1) bc bs 6008 [.int x] h (fun r h' => r = some (.int (suX x)) ∧ h' = h) := by
  refine jx_tr jM_Rr_sumSign rfl rfl (lv := [some (.int x)]) rfl ?_
  refine je_iload0 (pc := 0) d6008_0 rfl ?_
  by_cases s1_43 : x = 43
  · refine je_lookup (pc := 1) 28 d6008_1 (by decide) (off := 27) (by rw [s1_43]; decide) (by decide) ?_
    refine je_iconst (pc := 28) (v := -1) d6008_28 rfl ?_
    refine je_iret (pc := 29) d6008_29 rfl ?_
    unfold suX
    rw [if_pos s1_43]
    exact ⟨rfl, rfl⟩
  by_cases s1_45 : x = 45
  · refine je_lookup (pc := 1) 30 d6008_1 (by decide) (off := 29) (by rw [s1_45]; decide) (by decide) ?_
    refine je_bipush (pc := 30) (v := -2) d6008_30 rfl ?_
    refine je_iret (pc := 32) d6008_32 rfl ?_
    unfold suX
    rw [if_neg s1_43, if_pos s1_45]
    exact ⟨rfl, rfl⟩
  refine je_lookup (pc := 1) 33 d6008_1 (by decide) (off := 32) (by show lookupswitch.offset [(Int32.toInt 43, 27), (Int32.toInt 45, 29)] 32 (Int32.toInt x) = 32; rw [lv_osw s1_43 rfl]; rw [lv_osw s1_45 rfl]; rfl) (by decide) ?_
  refine je_iconst (pc := 33) (v := 0) d6008_33 rfl ?_
  refine je_iret (pc := 34) d6008_34 rfl ?_
  unfold suX
  rw [if_neg s1_43, if_neg s1_45]
  exact ⟨rfl, rfl⟩
set_option maxHeartbeats 2000000 in
theorem t_Rr_comparison (d : Nat) {bc bs : Nat} {h : jx_H} (x : Int32) : jx_Tr (d + 1) bc bs 6012 [.int x] h (fun r h' => r = some (.int (cmX x)) ∧ h' = h) := by
  refine jx_tr jM_Rr_comparison rfl rfl (lv := [some (.int x)]) rfl ?_
  refine je_iload0 (pc := 0) d6012_0 rfl ?_
  by_cases s1_60 : x = 60
  · refine je_lookup (pc := 1) 52 d6012_1 (by decide) (off := 51) (by rw [s1_60]; decide) (by decide) ?_
    refine je_bipush (pc := 52) (v := -6) d6012_52 rfl ?_
    refine je_iret (pc := 54) d6012_54 rfl ?_
    unfold cmX
    rw [if_pos s1_60]
    exact ⟨rfl, rfl⟩
  by_cases s1_61 : x = 61
  · refine je_lookup (pc := 1) 58 d6012_1 (by decide) (off := 57) (by rw [s1_61]; decide) (by decide) ?_
    refine je_bipush (pc := 58) (v := -8) d6012_58 rfl ?_
    refine je_iret (pc := 60) d6012_60 rfl ?_
    unfold cmX
    rw [if_neg s1_60, if_pos s1_61]
    exact ⟨rfl, rfl⟩
  by_cases s1_62 : x = 62
  · refine je_lookup (pc := 1) 64 d6012_1 (by decide) (off := 63) (by rw [s1_62]; decide) (by decide) ?_
    refine je_bipush (pc := 64) (v := -10) d6012_64 rfl ?_
    refine je_iret (pc := 66) d6012_66 rfl ?_
    unfold cmX
    rw [if_neg s1_60, if_neg s1_61, if_pos s1_62]
    exact ⟨rfl, rfl⟩
  by_cases s1_258 : x = 258
  · refine je_lookup (pc := 1) 55 d6012_1 (by decide) (off := 54) (by rw [s1_258]; decide) (by decide) ?_
    refine je_bipush (pc := 55) (v := -7) d6012_55 rfl ?_
    refine je_iret (pc := 57) d6012_57 rfl ?_
    unfold cmX
    rw [if_neg s1_60, if_neg s1_61, if_neg s1_62, if_pos s1_258]
    exact ⟨rfl, rfl⟩
  by_cases s1_259 : x = 259
  · refine je_lookup (pc := 1) 61 d6012_1 (by decide) (off := 60) (by rw [s1_259]; decide) (by decide) ?_
    refine je_bipush (pc := 61) (v := -9) d6012_61 rfl ?_
    refine je_iret (pc := 63) d6012_63 rfl ?_
    unfold cmX
    rw [if_neg s1_60, if_neg s1_61, if_neg s1_62, if_neg s1_258, if_pos s1_259]
    exact ⟨rfl, rfl⟩
  refine je_lookup (pc := 1) 67 d6012_1 (by decide) (off := 66) (by show lookupswitch.offset [(Int32.toInt 60, 51), (Int32.toInt 61, 57), (Int32.toInt 62, 63), (Int32.toInt 258, 54), (Int32.toInt 259, 60)] 66 (Int32.toInt x) = 66; rw [lv_osw s1_60 rfl]; rw [lv_osw s1_61 rfl]; rw [lv_osw s1_62 rfl]; rw [lv_osw s1_258 rfl]; rw [lv_osw s1_259 rfl]; rfl) (by decide) ?_
  refine je_iconst (pc := 67) (v := 0) d6012_67 rfl ?_
  refine je_iret (pc := 68) d6012_68 rfl ?_
  unfold cmX
  rw [if_neg s1_60, if_neg s1_61, if_neg s1_62, if_neg s1_258, if_neg s1_259]
  exact ⟨rfl, rfl⟩
