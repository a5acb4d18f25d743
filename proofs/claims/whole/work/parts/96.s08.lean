/-! a rule told: the model reads clauses -/
set_option maxHeartbeats 2000000 in
theorem t_Mo_test (d : Nat) {bc bs : Nat} {h : jx_H} {N sl : Nat} {U : Nat → Int32} {s : RS} (B0 : mrI h N sl U s) (f : s.1 = 0) (hN : N ≤ 400) (hsl : sl < 6) (I : iR U N s) (hU : bytT U N) (hd : h.2.1 253 33 = 0) : jx_Tr (d + 11) bc bs 12034 [.ref 253] h (fun r h' => r = none ∧ moT sl h h' ∧ ((teR U N 10 s).1 = 0 → mrI h' N sl U (teR U N 10 s) ∧ h'.2.1 253 33 = 0) ∧ (¬ (teR U N 10 s).1 = 0 → mrB h' N sl U (teR U N 10 s).1)) := by
  refine jx_tr jM_Mo_test rfl rfl (lv := [some (.ref 253), none, none, none, none]) rfl ?_
  obtain ⟨p, hp, B, eB⟩ := B0
  refine je_aload0 (pc := 0) d12034_0 rfl ?_
  refine je_iconst (pc := 1) (v := 0) d12034_1 rfl ?_
  refine ju_puti (pc := 2) d12034_2 jF_12_285 rfl (sK253 B.1.1) ?_
  refine je_iconst (pc := 5) (v := 1) d12034_5 rfl ?_
  refine ju_istore1 (pc := 6) (lv' := [some _, some _, none, none, none]) d12034_6 rfl rfl ?_
  refine je_iconst (pc := 7) (v := 1) d12034_7 rfl ?_
  refine ju_istore2 (pc := 8) (lv' := [some _, some _, some _, none, none]) d12034_8 rfl rfl ?_
  have F0 : moT sl h (jx_wI h 253 35 0) := moT.w (by decide)
  have M : mts (jx_wI h 253 35 0) N sl U s [] 0 := ⟨p, hp, ⟨B.kp F0 (fun j hj => by rw [wI_at, jx_up_ne _ _ (by omega)]) (by rw [wI_ne _ _ _ (by decide)]) (by rw [wI_ne _ _ _ (by decide)]), by rw [wI_at, jx_up_self]; rfl, trivial, by rw [wI_at, jx_up_ne _ _ (by decide)]; exact hd⟩, eB f⟩
  refine tst_r hN hsl (fct_all hN hsl hU 10) _ h (jx_wI h 253 35 0) s [] 0 F0 M f I rfl (Or.inr rfl) (Nat.zero_le _) (fun h1 M1 g m1 => ?_) (fun h1 M1 g m1 => ?_)
  · have ok := (gd_i (te_gd hN 10) I).1 g
    exact a137_e m1 ⟨rfl, M1, fun _ => ⟨⟨_, ok.1, m1.1, fun _ => ok.2.1⟩, m1.2.2.2⟩, fun z => absurd g z⟩
  · exact ⟨rfl, M1, fun z => absurd z g, fun _ => m1⟩
theorem wd_43 : wdO 43 = wdO 7 ∧ (wdO 43).length = 2 ∧ wdO 42 = wdO 6 ∧ (wdO 6).length = 5 := by decide +kernel
set_option maxHeartbeats 2000000 in
theorem t_Mo_takes_y (d : Nat) {bc bs : Nat} {h : jx_H} {N sl : Nat} {U : Nat → Int32} {s : RS} (B0 : mrI h N sl U s) (f : s.1 = 0) (hN : N ≤ 400) (hsl : sl < 6) (I : iR U N s) (c : stW U N s.2.1 (wdO 7)) : jx_Tr (d + 6) bc bs 12033 [.ref 253, .ref (1000000 + 43)] h (fun r h' => r = some (.int (b2 (stW U N s.2.1 (wdO 7)))) ∧ moF sl h h' ∧ mrI h' N sl U (avR U N s)) := by
  refine jx_tr jM_Mo_takes rfl rfl (lv := [some (.ref 253), some (.ref (1000000 + 43)), none]) rfl ?_
  obtain ⟨p, hp, B, eB⟩ := B0
  have hb : s.2.1 ≤ N := (I.1 f).1
  refine je_aload0 (pc := 0) d12033_0 rfl ?_
  refine ju_callv (pc := 1) (as := []) d12033_1 jL_12_237 jM_Mo_blanks rfl (by decide) (sK253 B.1.1) rfl (by exact Nat.le_of_ble_eq_true rfl) (t_Mo_blanks_R (d + 3) B hN (by omega)) (fun r1 h1 q1 => ?_)
  obtain ⟨rfl, F1, B1⟩ := q1
  rw [eB f] at B1
  refine je_aload0 (pc := 4) d12033_4 rfl ?_
  refine je_aload1 (pc := 5) d12033_5 rfl ?_
  refine ju_callv (pc := 6) (as := [_]) d12033_6 jL_12_240 jM_Mo_stood rfl (by decide) (sK253 B1.1.1) rfl (by exact Nat.le_of_ble_eq_true rfl) (t_Mo_stood_R d (e := 43) (by decide) B1 hN hb) (fun r6 h6 q6 => ?_)
  obtain ⟨rfl, e6⟩ := q6
  obtain rfl := e6.symm
  rw [wd_43.1]
  refine ju_istore2 (pc := 9) (lv' := [some _, some _, some _]) d12033_9 rfl rfl ?_
  refine je_aload0 (pc := 10) d12033_10 rfl ?_
  refine je_dup (pc := 11) d12033_11 rfl ?_
  refine ju_geti (pc := 12) d12033_12 jF_12_217 rfl (sK253 B1.1.1) ?_
  refine ju_eqi (v := nI s.2.1) B1.2.2.1 ?_
  refine je_iload2 (pc := 15) d12033_15 rfl ?_
  refine jb_ifeq (pc := 16) 26 d12033_16 (by decide) (fun c16 => absurd c16 (fun z => z c)) (fun c16 => ?_)
  refine je_aload1 (pc := 19) d12033_19 rfl ?_
  refine je_callS (pc := 20) (as := []) d12033_20 jL_12_228 jM_Str_length rfl rfl (sq_q (show 43 < 44 by decide)) rfl (Nat.le_of_ble_eq_true rfl) (t_Str_length (d + 3) (sq_q (show 43 < 44 by decide))) (fun r20 h20 q20 => ?_)
  obtain ⟨rfl, e20⟩ := q20
  obtain rfl := e20.symm
  refine je_goto (pc := 23) 27 d12033_23 (by decide) ?_
  refine je_iadd (pc := 27) d12033_27 ?_
  refine ju_eqi (v := nI ((s.2.1) + ((wdO 43).length))) (nI_add (s.2.1) ((wdO 43).length)) ?_
  refine ju_puti (pc := 28) d12033_28 jF_12_217 rfl (sK253 B1.1.1) ?_
  refine je_iload2 (pc := 31) d12033_31 rfl ?_
  refine je_zret (pc := 32) d12033_32 rfl (b2_01 _) ?_
  have wl := wd_tk c
  have tn := (tk_N (T := U) hb).2
  rw [← wd_43.1] at wl
  rw [← wl]
  exact ⟨rfl, F1.tr (moF.w (Or.inl rfl)), mrJ.av B1 f tn rfl⟩
set_option maxHeartbeats 2000000 in
theorem t_Mo_takes_n (d : Nat) {bc bs : Nat} {h : jx_H} {N sl : Nat} {U : Nat → Int32} {s : RS} (B0 : mrI h N sl U s) (f : s.1 = 0) (hN : N ≤ 400) (hsl : sl < 6) (I : iR U N s) (c : ¬ stW U N s.2.1 (wdO 7)) : jx_Tr (d + 6) bc bs 12033 [.ref 253, .ref (1000000 + 43)] h (fun r h' => r = some (.int (b2 (stW U N s.2.1 (wdO 7)))) ∧ moF sl h h' ∧ mrI h' N sl U s) := by
  refine jx_tr jM_Mo_takes rfl rfl (lv := [some (.ref 253), some (.ref (1000000 + 43)), none]) rfl ?_
  obtain ⟨p, hp, B, eB⟩ := B0
  have hb : s.2.1 ≤ N := (I.1 f).1
  refine je_aload0 (pc := 0) d12033_0 rfl ?_
  refine ju_callv (pc := 1) (as := []) d12033_1 jL_12_237 jM_Mo_blanks rfl (by decide) (sK253 B.1.1) rfl (by exact Nat.le_of_ble_eq_true rfl) (t_Mo_blanks_R (d + 3) B hN (by omega)) (fun r1 h1 q1 => ?_)
  obtain ⟨rfl, F1, B1⟩ := q1
  rw [eB f] at B1
  refine je_aload0 (pc := 4) d12033_4 rfl ?_
  refine je_aload1 (pc := 5) d12033_5 rfl ?_
  refine ju_callv (pc := 6) (as := [_]) d12033_6 jL_12_240 jM_Mo_stood rfl (by decide) (sK253 B1.1.1) rfl (by exact Nat.le_of_ble_eq_true rfl) (t_Mo_stood_R d (e := 43) (by decide) B1 hN hb) (fun r6 h6 q6 => ?_)
  obtain ⟨rfl, e6⟩ := q6
  obtain rfl := e6.symm
  rw [wd_43.1]
  refine ju_istore2 (pc := 9) (lv' := [some _, some _, some _]) d12033_9 rfl rfl ?_
  refine je_aload0 (pc := 10) d12033_10 rfl ?_
  refine je_dup (pc := 11) d12033_11 rfl ?_
  refine ju_geti (pc := 12) d12033_12 jF_12_217 rfl (sK253 B1.1.1) ?_
  refine ju_eqi (v := nI s.2.1) B1.2.2.1 ?_
  refine je_iload2 (pc := 15) d12033_15 rfl ?_
  refine jb_ifeq (pc := 16) 26 d12033_16 (by decide) (fun c16 => ?_) (fun c16 => absurd c16 (fun z => c z))
  refine je_iconst (pc := 26) (v := 0) d12033_26 rfl ?_
  refine je_iadd (pc := 27) d12033_27 ?_
  refine ju_eqi (v := nI ((s.2.1) + 0)) (nI_add (s.2.1) 0) ?_
  refine ju_puti (pc := 28) d12033_28 jF_12_217 rfl (sK253 B1.1.1) ?_
  refine je_iload2 (pc := 31) d12033_31 rfl ?_
  refine je_zret (pc := 32) d12033_32 rfl (b2_01 _) ?_
  exact ⟨rfl, F1.tr (moF.w (Or.inl rfl)), s.2.1, hb, B1.p (s.2.1 + 0), fun _ => (I.1 f).2.1⟩
set_option maxHeartbeats 2000000 in
theorem t_Mo_goesOn_f (d : Nat) {bc bs : Nat} {h : jx_H} {N sl : Nat} {U : Nat → Int32} {g : Int32} (B : mrB h N sl U g) (nz : ¬ g = 0) (hN : N ≤ 400) : jx_Tr (d + 3) bc bs 12023 [.ref 253] h (fun r h' => r = some (.int 0) ∧ fC (fun b => b = 253) h h' ∧ (∀ j, j ≠ 28 → j ≠ 29 → h'.2.1 253 j = h.2.1 253 j) ∧ h'.2.1 253 29 = g) := by
  refine jx_tr jM_Mo_goesOn rfl rfl (lv := [some (.ref 253), none]) rfl ?_
  obtain ⟨p, hp, ep⟩ := B.2.2
  refine je_aload0 (pc := 0) d12023_0 rfl ?_
  refine ju_callv (pc := 1) (as := []) d12023_1 jL_12_237 jM_Mo_blanks rfl (by decide) (sK253 B.1.1) rfl (by exact Nat.le_of_ble_eq_true rfl) (t_Mo_blanks d (N := N) (p := p) B.1.1 B.1.2.2.2.1 ep hN (by omega)) (fun r1 h1 q1 => ?_)
  obtain ⟨rfl, F1, G1, p1⟩ := q1
  have H1 := F1.St B.1.1
  have e29 : h1.2.1 253 29 = g := (G1 29 (by decide)).trans B.2.1
  refine je_aload0 (pc := 4) d12023_4 rfl ?_
  refine ju_geti (pc := 5) d12023_5 jF_12_214 rfl (sK253 H1) ?_
  refine ju_eqi (v := g) e29 ?_
  refine je_ifne (pc := 8) 40 d12023_8 (by decide) (fun c8 => ?_) (fun c8 => absurd c8 nz)
  refine je_aload0 (pc := 40) d12023_40 rfl ?_
  refine ju_geti (pc := 41) d12023_41 jF_12_214 rfl (sK253 H1) ?_
  refine ju_eqi (v := g) e29 ?_
  refine je_ifne (pc := 44) 62 d12023_44 (by decide) (fun c44 => ?_) (fun c44 => absurd c44 nz)
  refine je_iconst (pc := 62) (v := 0) d12023_62 rfl ?_
  refine ju_istore1 (pc := 63) (lv' := [some _, some _]) d12023_63 rfl rfl ?_
  refine je_aload0 (pc := 64) d12023_64 rfl ?_
  refine je_dup (pc := 65) d12023_65 rfl ?_
  refine ju_geti (pc := 66) d12023_66 jF_12_217 rfl (sK253 H1) ?_
  refine je_iconst (pc := 69) (v := 1) d12023_69 rfl ?_
  refine je_iadd (pc := 70) d12023_70 ?_
  refine ju_puti (pc := 71) d12023_71 jF_12_217 rfl (sK253 H1) ?_
  refine je_iload1 (pc := 74) d12023_74 rfl ?_
  refine je_zret (pc := 75) d12023_75 rfl (Or.inl rfl) ?_
  exact ⟨rfl, F1.wI rfl, fun j a1 a2 => by rw [wI_at, jx_up_ne _ _ a1]; exact G1 j a1, by rw [wI_at, jx_up_ne _ _ (by decide)]; exact e29⟩
def moC (sl n : Nat) (h h' : jx_H) : Prop := fC (fun b => b = 253 ∨ b = 281 ∨ b = 282 ∨ b = 284 ∨ b = 285 ∨ b = 286 ∨ b = 287) h h' ∧ (∀ j, j ≠ 28 → j ≠ 29 → j ≠ 32 → j ≠ 33 → j ≠ 34 → j ≠ 35 → h'.2.1 253 j = h.2.1 253 j) ∧ (∀ i, i < 300 * sl → h'.2.1 281 i = h.2.1 281 i ∧ h'.2.1 282 i = h.2.1 282 i) ∧ ∀ i, i ≠ 12 * sl + n → h'.2.1 284 i = h.2.1 284 i ∧ h'.2.1 285 i = h.2.1 285 i ∧ h'.2.1 286 i = h.2.1 286 i
theorem moC.tr {sl n : Nat} {h1 h2 h3 : jx_H} (x : moC sl n h1 h2) (y : moC sl n h2 h3) : moC sl n h1 h3 := ⟨x.1.tr y.1, fun j a b c e f g => (y.2.1 j a b c e f g).trans (x.2.1 j a b c e f g), fun i hi => ⟨((y.2.2.1 i hi).1).trans (x.2.2.1 i hi).1, ((y.2.2.1 i hi).2).trans (x.2.2.1 i hi).2⟩, fun i hi => ⟨((y.2.2.2 i hi).1).trans (x.2.2.2 i hi).1, ((y.2.2.2 i hi).2.1).trans (x.2.2.2 i hi).2.1, ((y.2.2.2 i hi).2.2).trans (x.2.2.2 i hi).2.2⟩⟩
theorem moT.C {sl n : Nat} {h h' : jx_H} (x : moT sl h h') : moC sl n h h' := ⟨x.1.mo (fun b e => by omega), x.2.1, x.2.2, fun i _ => by rw [x.1.2 284 (by decide), x.1.2 285 (by decide), x.1.2 286 (by decide)]; exact ⟨rfl, rfl, rfl⟩⟩
theorem moC.w {sl n b : Nat} {h : jx_H} {v : Int32} (hb : b = 284 ∨ b = 285 ∨ b = 286) : moC sl n h (jx_wI h b (12 * sl + n) v) := by
  refine ⟨fC.rf.wI (by omega), fun j _ _ _ _ _ _ => by rw [wI_ne _ _ _ (by omega)], fun i _ => by rw [wI_ne _ _ _ (by omega), wI_ne _ _ _ (by omega)]; exact ⟨rfl, rfl⟩, fun i hi => ?_⟩
  rcases hb with rfl | rfl | rfl
  · rw [wI_at, jx_up_ne _ _ hi, wI_ne _ _ _ (by decide), wI_ne _ _ _ (by decide)]; exact ⟨rfl, rfl, rfl⟩
  · rw [wI_at, jx_up_ne _ _ hi, wI_ne _ _ _ (by decide), wI_ne _ _ _ (by decide)]; exact ⟨rfl, rfl, rfl⟩
  · rw [wI_at, jx_up_ne _ _ hi, wI_ne _ _ _ (by decide), wI_ne _ _ _ (by decide)]; exact ⟨rfl, rfl, rfl⟩
theorem mrP.o {h : jx_H} {N sl p b i : Nat} {U : Nat → Int32} {s : RS} {v : Int32} (B : mrP h N sl U p s) (hb : b = 284 ∨ b = 285 ∨ b = 286) : mrP (jx_wI h b i v) N sl U p s := by
  obtain ⟨⟨a1, a2, a3, a4, a5, a6⟩, b1, b2, b3⟩ := B
  have e : (jx_wI h b i v).2.1 253 = h.2.1 253 := by rw [wI_ne _ _ _ (by omega)]
  have e0 : (jx_wI h b i v).2.1 280 = h.2.1 280 := by rw [wI_ne _ _ _ (by omega)]
  have e1 : (jx_wI h b i v).2.1 281 = h.2.1 281 := by rw [wI_ne _ _ _ (by omega)]
  have e2 : (jx_wI h b i v).2.1 282 = h.2.1 282 := by rw [wI_ne _ _ _ (by omega)]
  refine ⟨⟨a1.wI, ?_, by rw [e0]; exact a3, by rw [e]; exact a4, by rw [e]; exact a5, by rw [e]; exact a6⟩, by rw [e]; exact b1, by rw [e]; exact b2, by rw [e, e1, e2]; exact b3⟩
  rw [← a2]; funext j; unfold mT; rw [e0]
theorem mrB.o {h : jx_H} {N sl b i : Nat} {U : Nat → Int32} {g : Int32} {v : Int32} (B : mrB h N sl U g) (hb : b = 284 ∨ b = 285 ∨ b = 286) : mrB (jx_wI h b i v) N sl U g := by
  obtain ⟨⟨a1, a2, a3, a4, a5, a6⟩, b1, b2⟩ := B
  have e : (jx_wI h b i v).2.1 253 = h.2.1 253 := by rw [wI_ne _ _ _ (by omega)]
  have e0 : (jx_wI h b i v).2.1 280 = h.2.1 280 := by rw [wI_ne _ _ _ (by omega)]
  refine ⟨⟨a1.wI, ?_, by rw [e0]; exact a3, by rw [e]; exact a4, by rw [e]; exact a5, by rw [e]; exact a6⟩, by rw [e]; exact b1, by rw [e]; exact b2⟩
  rw [← a2]; funext j; unfold mT; rw [e0]
def rlQ (h h' : jx_H) (N sl n : Nat) (U : Nat → Int32) (s : RS) : Prop := moC sl n h h' ∧ ((c2R U N n s).1 = 0 → mrI h' N sl U (c2R U N n s) ∧ h'.2.1 253 33 = 0 ∧ h'.2.1 284 (12 * sl + n) = nI s.2.2.2.length ∧ h'.2.1 285 (12 * sl + n) = nI (c1R U N n s).2.2.2.length ∧ h'.2.1 286 (12 * sl + n) = nI (c2R U N n s).2.2.2.length) ∧ (¬ (c2R U N n s).1 = 0 → mrB h' N sl U (c2R U N n s).1)
set_option maxHeartbeats 8000000 in
theorem t_Mo_ruleClause (d : Nat) {bc bs : Nat} {h : jx_H} {n : Nat} {N sl : Nat} {U : Nat → Int32} {s : RS} (B0 : mrI h N sl U s) (f : s.1 = 0) (hN : N ≤ 400) (hsl : sl < 6) (I : iR U N s) (jj : jR U N s) (hU : bytT U N) (hd : h.2.1 253 33 = 0) (hn : n ≤ 12) : jx_Tr (d + 12) bc bs 12026 [.ref 253, .int (nI n)] h (fun r h' => r = none ∧ rlQ h h' N sl n U s) := by
  refine jx_tr jM_Mo_ruleClause rfl rfl (lv := [some (.ref 253), some (.int (nI n)), none, none]) rfl ?_
  obtain ⟨p, hp, B, eB⟩ := B0
  have hb : s.2.1 ≤ N := (I.1 f).1
  have K104 : ∀ h4, ¬ n = 12 → jx_St h4 → moC sl n h h4 → ((c2R U N n s).1 = 0 → mrI h4 N sl U (c2R U N n s) ∧ h4.2.1 253 33 = 0 ∧ h4.2.1 284 (12 * sl + n) = nI s.2.2.2.length ∧ h4.2.1 285 (12 * sl + n) = nI (c1R U N n s).2.2.2.length) → (¬ (c2R U N n s).1 = 0 → mrB h4 N sl U (c2R U N n s).1) → jx_Ev (d + 12) bc bs 12026 104 [some (.ref 253), some (.int (nI n)), some (.int (nI s.2.1)), some (.int (nI (12 * sl + n)))] [] h4 (fun r h' => r = none ∧ rlQ h h' N sl n U s) := by
    intro h4 n12 H4 G0 G1 G2
    refine je_aload0 (pc := 104) d12026_104 rfl ?_
    refine ju_getr (pc := 105) (b := 286) d12026_105 jF_12_111 rfl (sK253 H4) (sR253_43 H4) ?_
    refine je_iload3 (pc := 108) d12026_108 rfl ?_
    refine je_aload0 (pc := 109) d12026_109 rfl ?_
    refine ju_geti (pc := 110) d12026_110 jF_12_247 rfl (sK253 H4) ?_
    refine ju_iast (pc := 113) (jn := (12 * sl + n)) d12026_113 (sK286 H4) (vp_in_nI (by omega) (by decide)) (nI_clamp (by omega)) ?_
    refine je_ret (pc := 114) d12026_114 rfl ?_
    have F5 : moC sl n h (jx_wI h4 286 (12 * sl + n) (h4.2.1 253 32)) := G0.tr (moC.w (by decide))
    refine ⟨rfl, F5, fun g => ?_, fun g => (G2 g).o (by decide)⟩
    obtain ⟨⟨p4, k1, k2, k3⟩, k4, k5, k6⟩ := G1 g
    refine ⟨⟨p4, k1, k2.o (by decide), k3⟩, ?_, ?_, ?_, ?_⟩
    · rw [wI_ne _ _ _ (by decide)]; exact k4
    · rw [wI_ne _ _ _ (by decide)]; exact k5
    · rw [wI_ne _ _ _ (by decide)]; exact k6
    · rw [wI_at, jx_up_self]; exact (k2.2.2.2 g).2.1
  refine je_aload0 (pc := 0) d12026_0 rfl ?_
  refine ju_callv (pc := 1) (as := []) d12026_1 jL_12_237 jM_Mo_blanks rfl (by decide) (sK253 B.1.1) rfl (by exact Nat.le_of_ble_eq_true rfl) (t_Mo_blanks_R (d + 9) B hN (by omega)) (fun r1 h1 q1 => ?_)
  obtain ⟨rfl, F1, B1⟩ := q1
  rw [eB f] at B1
  have d1 : h1.2.1 253 33 = 0 := (F1.2.1 33 (by decide) (by decide) (by decide) (by decide)).trans hd
  refine je_aload0 (pc := 4) d12026_4 rfl ?_
  refine ju_geti (pc := 5) d12026_5 jF_12_217 rfl (sK253 B1.1.1) ?_
  refine ju_eqi (v := nI s.2.1) B1.2.2.1 ?_
  refine ju_istore2 (pc := 8) (lv' := [some _, some _, some _, none]) d12026_8 rfl rfl ?_
  refine je_aload0 (pc := 9) d12026_9 rfl ?_
  refine je_ldwS (pc := 10) (e := 42) d12026_10 rfl ?_
  refine ju_callv (pc := 13) (as := [_]) d12026_13 jL_12_240 jM_Mo_stood rfl (by decide) (sK253 B1.1.1) rfl (by exact Nat.le_of_ble_eq_true rfl) (t_Mo_stood_R (d + 6) (e := 42) (by decide) B1 hN hb) (fun r13 h13 q13 => ?_)
  obtain ⟨rfl, e13⟩ := q13
  obtain rfl := e13.symm
  rw [wd_43.2.2.1]
  refine jb_ifne (pc := 16) 26 d12026_16 (by decide) (fun c16 => ?_) (fun c16 => ?_)
  · refine je_iload1 (pc := 26) d12026_26 rfl ?_
    refine je_bipush (pc := 27) (v := 12) d12026_27 rfl ?_
    refine jn_icne (pc := 29) (a := (n)) (b := 12) 39 d12026_29 (by decide) (by omega) (by omega) (fun c29 => ?_) (fun c29 => ?_)
    · refine je_aload0 (pc := 39) d12026_39 rfl ?_
      refine je_dup (pc := 40) d12026_40 rfl ?_
      refine ju_geti (pc := 41) d12026_41 jF_12_217 rfl (sK253 B1.1.1) ?_
      refine ju_eqi (v := nI s.2.1) B1.2.2.1 ?_
      refine je_iconst (pc := 44) (v := 5) d12026_44 rfl ?_
      refine je_iadd (pc := 45) d12026_45 ?_
      refine ju_eqi (v := nI ((s.2.1) + 5)) (nI_add (s.2.1) 5) ?_
      refine ju_puti (pc := 46) d12026_46 jF_12_217 rfl (sK253 B1.1.1) ?_
      have B3 := B1.p (s.2.1 + 5)
      have wl := wd_tk c16
      rw [wd_43.2.2.2] at wl
      have tn := (tk_N (T := U) hb).2
      have ec : (c1R U N n s) = smR U N (avR U N s) := by
        unfold c1R c0R
        rw [if_pos ⟨f, c16⟩, if_neg c29]
      refine je_bipush (pc := 49) (v := 12) d12026_49 rfl ?_
      refine je_aload0 (pc := 51) d12026_51 rfl ?_
      refine ju_geti (pc := 52) d12026_52 jF_12_244 rfl (sK253 B1.1.1.wI) ?_
      refine ju_eqi (v := nI sl) B3.1.2.2.2.2.1 ?_
      refine je_imul (pc := 55) d12026_55 ?_
      refine ju_eqi (v := nI (12 * (sl))) (pk_mul 12 (sl)) ?_
      refine je_iload1 (pc := 56) d12026_56 rfl ?_
      refine je_iadd (pc := 57) d12026_57 ?_
      refine ju_eqi (v := nI ((12 * (sl)) + (n))) (nI_add (12 * (sl)) (n)) ?_
      refine ju_istore3 (pc := 58) (lv' := [some _, some _, some _, some _]) d12026_58 rfl rfl ?_
      refine je_aload0 (pc := 59) d12026_59 rfl ?_
      refine ju_getr (pc := 60) (b := 284) d12026_60 jF_12_105 rfl (sK253 B1.1.1.wI) (sR253_41 B1.1.1.wI) ?_
      refine je_iload3 (pc := 63) d12026_63 rfl ?_
      refine je_aload0 (pc := 64) d12026_64 rfl ?_
      refine ju_geti (pc := 65) d12026_65 jF_12_247 rfl (sK253 B1.1.1.wI) ?_
      refine ju_eqi (v := nI s.2.2.2.length) (B3.2.2.2 f).2.1 ?_
      refine ju_iast (pc := 68) (jn := ((12 * (sl)) + (n))) d12026_68 (sK284 B1.1.1.wI) (vp_in_nI (by omega) (by decide)) (nI_clamp (by omega)) ?_
      have M3 : mrI (jx_wI h1 253 28 (nI (s.2.1 + 5))) N sl U (avR U N s) := mrJ.av B1 f (by omega) wl.symm
      have B4 : mrI (jx_wI (jx_wI h1 253 28 (nI (s.2.1 + 5))) 284 (12 * sl + n) (nI s.2.2.2.length)) N sl U (avR U N s) := by
        obtain ⟨q1, q2, q3, q4⟩ := M3
        exact ⟨q1, q2, q3.o (by decide), q4⟩
      have d4 : (jx_wI (jx_wI h1 253 28 (nI (s.2.1 + 5))) 284 (12 * sl + n) (nI s.2.2.2.length)).2.1 253 33 = 0 := by rw [wI_ne _ _ _ (by decide), wI_at, jx_up_ne _ _ (by decide)]; exact d1
      have s4 : (jx_wI (jx_wI h1 253 28 (nI (s.2.1 + 5))) 284 (12 * sl + n) (nI s.2.2.2.length)).2.1 284 (12 * sl + n) = nI s.2.2.2.length := by rw [wI_at, jx_up_self]
      refine je_aload0 (pc := 69) d12026_69 rfl ?_
      refine ju_callv (pc := 70) (as := []) d12026_70 jL_12_282 jM_Mo_sum rfl (by decide) (sK253 B4.choose_spec.2.1.1.1) rfl (by exact Nat.le_of_ble_eq_true rfl) (t_Mo_sum (d + 3) B4 hN hsl (av_i I)) (fun r70 h70 q70 => ?_)
      obtain ⟨rfl, F5, J5⟩ := q70
      have J5 : mrJ h70 N sl U (c1R U N n s) := by rw [ec]; exact J5
      obtain ⟨p5, hp5, B5, e5⟩ := J5
      have I5 : iR U N (c1R U N n s) := (c1_j (n := n) jj hN).1
      have d5 : h70.2.1 253 33 = 0 := (F5.2.1 33 (by decide) (by decide) (by decide) (by decide)).trans d4
      have s5 : h70.2.1 284 (12 * sl + n) = nI s.2.2.2.length := by rw [F5.1.2 284 (by decide)]; exact s4
      refine je_aload0 (pc := 73) d12026_73 rfl ?_
      refine ju_getr (pc := 74) (b := 285) d12026_74 jF_12_108 rfl (sK253 B5.1.1) (sR253_42 B5.1.1) ?_
      refine je_iload3 (pc := 77) d12026_77 rfl ?_
      refine je_aload0 (pc := 78) d12026_78 rfl ?_
      refine ju_geti (pc := 79) d12026_79 jF_12_247 rfl (sK253 B5.1.1) ?_
      refine ju_iast (pc := 82) (jn := ((12 * (sl)) + (n))) d12026_82 (sK285 B5.1.1) (vp_in_nI (by omega) (by decide)) (nI_clamp (by omega)) ?_
      obtain G6 : moC sl n h (jx_wI h70 285 (12 * sl + n) (h70.2.1 253 32)) := ((((F1.T.C (n := n)).tr (moT.w (Or.inl rfl)).C).tr (moC.w (by decide))).tr F5.T.C).tr (moC.w (by decide))
      have B6 : mrP (jx_wI h70 285 (12 * sl + n) (h70.2.1 253 32)) N sl U p5 (c1R U N n s) := B5.o (by decide)
      have d6 : (jx_wI h70 285 (12 * sl + n) (h70.2.1 253 32)).2.1 253 33 = 0 := by rw [wI_ne _ _ _ (by decide)]; exact d5
      have s6 : (jx_wI h70 285 (12 * sl + n) (h70.2.1 253 32)).2.1 284 (12 * sl + n) = nI s.2.2.2.length := by rw [wI_ne _ _ _ (by decide)]; exact s5
      have t6 : (c1R U N n s).1 = 0 → (jx_wI h70 285 (12 * sl + n) (h70.2.1 253 32)).2.1 285 (12 * sl + n) = nI (c1R U N n s).2.2.2.length := fun g1 => by rw [wI_at, jx_up_self]; exact (B5.2.2.2 g1).2.1
      by_cases g1 : (c1R U N n s).1 = 0
      · have M6 : mrI (jx_wI h70 285 (12 * sl + n) (h70.2.1 253 32)) N sl U (c1R U N n s) := ⟨p5, hp5, B6, fun _ => by rw [e5 g1]; exact (I5.1 g1).2.1⟩
        have t6 := t6 g1
        by_cases c7 : stW U N (c1R U N n s).2.1 (wdO 7)
        · skip
          refine je_aload0 (pc := 83) d12026_83 rfl ?_
          refine ju_geti (pc := 84) d12026_84 jF_12_214 rfl (sK253 B6.1.1) ?_
          refine ju_eqi (v := (c1R U N n s).1) B6.2.1 ?_
          refine je_ifne (pc := 87) 104 d12026_87 (by decide) (fun c87 => absurd c87 (fun z => z g1)) (fun c87 => ?_)
          refine je_aload0 (pc := 90) d12026_90 rfl ?_
          refine je_ldwS (pc := 91) (e := 43) d12026_91 rfl ?_
          refine ju_callv (pc := 94) (as := [_]) d12026_94 jL_12_368 jM_Mo_takes rfl (by decide) (sK253 B6.1.1) rfl (by exact Nat.le_of_ble_eq_true rfl) (t_Mo_takes_y (d + 5) (s := (c1R U N n s)) M6 g1 hN hsl I5 c7) (fun r94 h94 q94 => ?_)
          obtain ⟨rfl, F7, M7⟩ := q94
          have d7 : h94.2.1 253 33 = 0 := (F7.2.1 33 (by decide) (by decide) (by decide) (by decide)).trans d6
          refine jb_ifeq (pc := 97) 104 d12026_97 (by decide) (fun c97 => absurd c97 (fun z => z c7)) (fun c97 => ?_)
          refine je_aload0 (pc := 100) d12026_100 rfl ?_
          refine ju_callv (pc := 101) (as := []) d12026_101 jL_12_371 jM_Mo_test rfl (by decide) (sK253 M7.choose_spec.2.1.1.1) rfl (by exact Nat.le_of_ble_eq_true rfl) (t_Mo_test d (s := avR U N (c1R U N n s)) M7 (by rw [av_o g1]) hN hsl (av_i I5) hU d7) (fun r101 h101 q101 => ?_)
          obtain ⟨rfl, F8, T8, X8⟩ := q101
          have ec7 : (c2R U N n s) = teR U N 10 (avR U N (c1R U N n s)) := by unfold c2R; rw [if_pos ⟨g1, c7⟩]
          refine K104 _ c29 (F8.1.St M7.choose_spec.2.1.1.1) ((((G6.tr F7.T.C).tr F8.C))) (fun g => ?_) (fun g => by rw [ec7] at g ⊢; exact X8 g)
          rw [ec7] at g ⊢
          obtain ⟨y1, y2⟩ := T8 g
          exact ⟨y1, y2, by rw [F8.1.2 284 (by decide), F7.1.2 284 (by decide)]; exact s6, by rw [F8.1.2 285 (by decide), F7.1.2 285 (by decide)]; exact t6⟩
        · skip
          refine je_aload0 (pc := 83) d12026_83 rfl ?_
          refine ju_geti (pc := 84) d12026_84 jF_12_214 rfl (sK253 B6.1.1) ?_
          refine ju_eqi (v := (c1R U N n s).1) B6.2.1 ?_
          refine je_ifne (pc := 87) 104 d12026_87 (by decide) (fun c87 => absurd c87 (fun z => z g1)) (fun c87 => ?_)
          refine je_aload0 (pc := 90) d12026_90 rfl ?_
          refine je_ldwS (pc := 91) (e := 43) d12026_91 rfl ?_
          refine ju_callv (pc := 94) (as := [_]) d12026_94 jL_12_368 jM_Mo_takes rfl (by decide) (sK253 B6.1.1) rfl (by exact Nat.le_of_ble_eq_true rfl) (t_Mo_takes_n (d + 5) (s := (c1R U N n s)) M6 g1 hN hsl I5 c7) (fun r94 h94 q94 => ?_)
          obtain ⟨rfl, F7, M7⟩ := q94
          have d7 : h94.2.1 253 33 = 0 := (F7.2.1 33 (by decide) (by decide) (by decide) (by decide)).trans d6
          refine jb_ifeq (pc := 97) 104 d12026_97 (by decide) (fun c97 => ?_) (fun c97 => absurd c97 (fun z => c7 z))
          have ec7 : (c2R U N n s) = (c1R U N n s) := by unfold c2R; rw [if_neg (fun z => c7 z.2)]
          exact K104 _ c29 M7.choose_spec.2.1.1.1 (G6.tr F7.T.C) (fun g => ⟨by rw [ec7]; exact M7, d7, by rw [F7.1.2 284 (by decide)]; exact s6, by rw [F7.1.2 285 (by decide)]; exact t6⟩) (fun g => absurd (by rw [ec7]; exact g1) g)
      · skip
        refine je_aload0 (pc := 83) d12026_83 rfl ?_
        refine ju_geti (pc := 84) d12026_84 jF_12_214 rfl (sK253 B6.1.1) ?_
        refine ju_eqi (v := (c1R U N n s).1) B6.2.1 ?_
        refine je_ifne (pc := 87) 104 d12026_87 (by decide) (fun c87 => ?_) (fun c87 => absurd c87 g1)
        have ec7 : (c2R U N n s) = (c1R U N n s) := by unfold c2R; rw [if_neg (fun z => g1 z.1)]
        exact K104 _ c29 B6.1.1 G6 (fun g => absurd (by rw [← ec7]; exact g) g1) (fun g => by rw [ec7]; exact B6.b (by omega))
    · refine je_aload0 (pc := 32) d12026_32 rfl ?_
      refine je_iconst (pc := 33) (v := 4) d12026_33 rfl ?_
      refine je_iload2 (pc := 34) d12026_34 rfl ?_
      refine ju_callv (pc := 35) (as := [_, _]) d12026_35 jL_12_253 jM_Mo_fails rfl (by decide) (sK253 B1.1.1) rfl (by exact Nat.le_of_ble_eq_true rfl) (t_Mo_fails_R (d + 10) (q := s.2.1) (c := 4) B1 (by omega) (by decide)) (fun r35 h35 q35 => ?_)
      obtain ⟨rfl, F2, B2⟩ := q35
      refine je_ret (pc := 38) d12026_38 rfl ?_
      have ec2 : (c2R U N n s).1 = (flP s.2.1 4 s).1 := by
        have e0 : c0R U N n s = (fltI s.2.1 4, s.2) := by
          unfold c0R
          rw [if_pos ⟨f, c16⟩, if_pos c29, bl_o f]
        have nz : ¬ (fltI s.2.1 4, s.2).1 = 0 := flt_nz (show s.2.1 ≤ 400 by omega) (by decide)
        have e1 : (c1R U N n s) = (fltI s.2.1 4, s.2) := by
          unfold c1R
          rw [e0, av_f (s := (fltI s.2.1 4, s.2)) nz, sm_f (s := (fltI s.2.1 4, s.2)) nz]
        have e2 : (c2R U N n s) = (fltI s.2.1 4, s.2) := by
          unfold c2R
          rw [e1, if_neg (fun z => nz z.1)]
        rw [e2]
        exact (congrArg Prod.fst (if_pos f : flP s.2.1 4 s = _)).symm
      have nz := fp_nz (q := s.2.1) (c := 4) (s := s) (by omega) (by decide)
      refine ⟨rfl, (F1.T.tr F2.T).C, fun g => absurd (ec2.symm.trans g) nz, fun _ => ?_⟩
      rw [ec2]
      exact B2.b (by omega)
  · refine je_aload0 (pc := 19) d12026_19 rfl ?_
    refine je_iconst (pc := 20) (v := 0) d12026_20 rfl ?_
    refine je_iload2 (pc := 21) d12026_21 rfl ?_
    refine ju_callv (pc := 22) (as := [_, _]) d12026_22 jL_12_253 jM_Mo_fails rfl (by decide) (sK253 B1.1.1) rfl (by exact Nat.le_of_ble_eq_true rfl) (t_Mo_fails_R (d + 10) (q := s.2.1) (c := 0) B1 (by omega) (by decide)) (fun r22 h22 q22 => ?_)
    obtain ⟨rfl, F2, B2⟩ := q22
    refine je_ret (pc := 25) d12026_25 rfl ?_
    have ec2 : (c2R U N n s).1 = (flP s.2.1 0 s).1 := by
      have e0 : c0R U N n s = (fltI s.2.1 0, s.2) := by
        unfold c0R
        rw [if_neg (fun z => c16 z.2), bl_o f]
      have nz : ¬ (fltI s.2.1 0, s.2).1 = 0 := flt_nz (show s.2.1 ≤ 400 by omega) (by decide)
      have e1 : (c1R U N n s) = (fltI s.2.1 0, s.2) := by
        unfold c1R
        rw [e0, av_f (s := (fltI s.2.1 0, s.2)) nz, sm_f (s := (fltI s.2.1 0, s.2)) nz]
      have e2 : (c2R U N n s) = (fltI s.2.1 0, s.2) := by
        unfold c2R
        rw [e1, if_neg (fun z => nz z.1)]
      rw [e2]
      exact (congrArg Prod.fst (if_pos f : flP s.2.1 0 s = _)).symm
    have nz := fp_nz (q := s.2.1) (c := 0) (s := s) (by omega) (by decide)
    refine ⟨rfl, (F1.T.tr F2.T).C, fun g => absurd (ec2.symm.trans g) nz, fun _ => ?_⟩
    rw [ec2]
    exact B2.b (by omega)
