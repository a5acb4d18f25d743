/-! a rule told: the model reads values -/
def mrI (h : jx_H) (N sl : Nat) (U : Nat → Int32) (s : RS) : Prop := ∃ p, p ≤ N ∧ mrP h N sl U p s ∧ (s.1 = 0 → skB U N p = s.2.1)
def mrJ (h : jx_H) (N sl : Nat) (U : Nat → Int32) (s : RS) : Prop := ∃ p, p ≤ N ∧ mrP h N sl U p s ∧ (s.1 = 0 → p = s.2.1)
theorem mrJ.I {h : jx_H} {N sl : Nat} {U : Nat → Int32} {s : RS} (J : mrJ h N sl U s) (o : okR U N s) : mrI h N sl U s := by
  obtain ⟨p, p1, p2, p3⟩ := J
  exact ⟨p, p1, p2, fun f => by rw [p3 f]; exact (o f).2.1⟩
theorem mr_go {h : jx_H} {N sl p : Nat} {U : Nat → Int32} {s s' : RS} (B : mrP h N sl U p s') (hp : p ≤ N) (e : s.1 = s'.1) (e2 : s.1 = 0 → skB U N p = s.2.1 ∧ s.2.2 = s'.2.2) : mrI h N sl U s := ⟨p, hp, B.e2 e (fun f => (e2 (e.trans f)).2), fun f => (e2 f).1⟩
set_option maxHeartbeats 4000000 in
theorem t_Mo_digits_x (d : Nat) {bc bs : Nat} {h : jx_H} {N p : Nat} {f : Int32} (H : jx_St h) (ht : h.2.1 253 27 = nI N) (hp : h.2.1 253 28 = nI p) (hN : N ≤ 400) (hf : h.2.1 253 29 = f) (hd : p < N ∧ isDg (mT h p) = true) : jx_Tr (d + 3) bc bs 12016 [.ref 253, .int 99999] h (fun r h' => fC (fun b => b = 253) h h' ∧ (∀ j, j ≠ 28 → j ≠ 29 → h'.2.1 253 j = h.2.1 253 j) ∧ r = some (.int (nI (vlN (mT h) p (fv5 (dgs (mT h) N p))))) ∧ h'.2.1 253 28 = nI (tkE (mT h) N p) ∧ h'.2.1 253 29 = if 5 < dgs (mT h) N p then (if f = 0 then fltI p 1 else f) else f) := by
  refine jx_tr jM_Mo_digits rfl rfl (lv := [some (.ref 253), some (.int 99999), none, none]) rfl ?_
  have hpN : p ≤ 1000 := by omega
  refine je_aload0 (pc := 0) d12016_0 rfl ?_
  refine ju_callv (pc := 1) (as := []) d12016_1 jL_12_257 jM_Mo_isDigit rfl (by decide) (sK253 H) rfl (by exact Nat.le_of_ble_eq_true rfl) (t_Mo_isDigit d H ht hp hN hpN) (fun r1 h1 q1 => ?_)
  obtain ⟨rfl, e1⟩ := q1
  obtain rfl := e1.symm
  refine jb_ifne (pc := 4) 18 d12016_4 (by decide) (fun c4 => ?_) (fun c4 => absurd c4 (fun z => z hd))
  refine je_aload0 (pc := 18) d12016_18 rfl ?_
  refine ju_geti (pc := 19) d12016_19 jF_12_217 rfl (sK253 H) ?_
  refine ju_eqi (v := nI p) hp ?_
  refine ju_istore2 (pc := 22) (lv' := [some _, some _, some _, none]) d12016_22 rfl rfl ?_
  refine je_iconst (pc := 23) (v := 0) d12016_23 rfl ?_
  refine ju_istore3 (pc := 24) (lv' := [some _, some _, some _, some _]) d12016_24 rfl rfl ?_
  refine je_loop (σ := Unit) (dgs (mT h) N p) (fun k xx => [some (.ref 253), some (.int 99999), some (.int (nI p)), some (.int (nI (vlN (mT h) p (fv5 k))))]) (fun k _ h' => fC (fun b => b = 253) h h' ∧ (∀ j, j ≠ 28 → j ≠ 29 → h'.2.1 253 j = h.2.1 253 j) ∧ h'.2.1 253 28 = nI (p + k) ∧ h'.2.1 253 29 = f) (fun k xx h' hk e kk => ?_) (fun xx h' e => ?_) (0) () h (by omega) ⟨fC.rf, fun _ _ _ => rfl, hp, hf⟩
  · obtain ⟨x1, x2, x3, x4⟩ := e
    have H1 := x1.St H
    have t1 : h'.2.1 253 27 = nI N := (x2 27 (by decide) (by decide)).trans ht
    have et : ∀ j, mT h' j = mT h j := fun j => by unfold mT; rw [x1.2 280 (by decide)]
    have dn := dgs_N (T := mT h) (Nat.le_of_lt hd.1)
    have f5 : ∀ k, fv5 k ≤ 5 ∧ fv5 k ≤ k := fun k => by unfold fv5; split <;> omega
    have vl := vl_lt (T := mT h) (b := p) (k := fv5 (k)) (fun j hj => (dgN_e (dgs_in hd.1 hd.2 (j := j) (by have := f5 (k); omega)).2).1)
    have vp : 10 ^ fv5 (k) ≤ 10 ^ 5 := Nat.pow_le_pow_right (by decide) (f5 _).1
    have di := dgs_in hd.1 hd.2 hk
    have d1 := dgN_e di.2
    refine je_aload0 (pc := 25) d12016_25 rfl ?_
    refine ju_callv (pc := 26) (as := []) d12016_26 jL_12_257 jM_Mo_isDigit rfl (by decide) (sK253 H1) rfl (by exact Nat.le_of_ble_eq_true rfl) (t_Mo_isDigit d (N := N) (p := p + k) H1 t1 x3 hN (by omega)) (fun r26 h26 q26 => ?_)
    obtain ⟨rfl, e26⟩ := q26
    obtain rfl := e26.symm
    refine jb_ifeq (pc := 29) 72 d12016_29 (by decide) (fun c29 => absurd c29 (fun z => z ⟨di.1, by rw [et]; exact di.2⟩)) (fun c29 => ?_)
    refine je_aload0 (pc := 32) d12016_32 rfl ?_
    refine ju_geti (pc := 33) d12016_33 jF_12_217 rfl (sK253 H1) ?_
    refine ju_eqi (v := nI (p + k)) x3 ?_
    refine je_iload2 (pc := 36) d12016_36 rfl ?_
    refine je_isub (pc := 37) d12016_37 ?_
    refine ju_eqi (v := nI ((p + k) - (p))) (pk_sub (a := (p + k)) (b := (p)) (by omega)) ?_
    refine je_iconst (pc := 38) (v := 5) d12016_38 rfl ?_
    refine ju_tern2 (pc := 39) (V := nI (vlN (mT h) p (fv5 (k + 1)))) 58 ?_ (fun jn39 => ?_)
    · refine ju_istore3 (pc := 58) (lv' := [some _, some _, some _, some _]) d12016_58 rfl rfl ?_
      refine je_aload0 (pc := 59) d12016_59 rfl ?_
      refine je_dup (pc := 60) d12016_60 rfl ?_
      refine ju_geti (pc := 61) d12016_61 jF_12_217 rfl (sK253 H1) ?_
      refine ju_eqi (v := nI (p + k)) x3 ?_
      refine je_iconst (pc := 64) (v := 1) d12016_64 rfl ?_
      refine je_iadd (pc := 65) d12016_65 ?_
      refine ju_eqi (v := nI ((p + k) + 1)) (nI_add (p + k) 1) ?_
      refine ju_puti (pc := 66) d12016_66 jF_12_217 rfl (sK253 H1) ?_
      refine je_goto (pc := 69) 25 d12016_69 (by decide) ?_
      refine kk () _ ⟨x1.wI rfl, fun j a1 a2 => by rw [wI_at, jx_up_ne _ _ a1]; exact x2 j a1 a2, by rw [wI_at, jx_up_self]; rfl, by rw [wI_at, jx_up_ne _ _ (by decide)]; exact x4⟩
    · refine jn_icge (pc := 39) (a := ((p + k) - (p))) (b := 5) 57 d12016_39 (by decide) (by omega) (by omega) (fun c39 => ?_) (fun c39 => ?_)
      · refine je_iload3 (pc := 57) d12016_57 rfl ?_
        refine ju_eqi (v := nI (vlN (mT h) p (fv5 (k + 1)))) (by rw [fv_t (by omega)]) ?_
        exact jn39
      · refine je_bipush (pc := 42) (v := 10) d12016_42 rfl ?_
        refine je_iload3 (pc := 44) d12016_44 rfl ?_
        refine je_imul (pc := 45) d12016_45 ?_
        refine ju_eqi (v := nI (10 * (vlN (mT h) p (fv5 k)))) (pk_mul 10 (vlN (mT h) p (fv5 k))) ?_
        refine je_aload0 (pc := 46) d12016_46 rfl ?_
        refine ju_callv (pc := 47) (as := []) d12016_47 jL_12_220 jM_Mo_sign rfl (by decide) (sK253 H1) rfl (by exact Nat.le_of_ble_eq_true rfl) (t_Mo_sign (d + 1) (N := N) (p := p + k) H1 t1 x3 hN (by omega)) (fun r47 h47 q47 => ?_)
        obtain ⟨rfl, e47⟩ := q47
        obtain rfl := e47.symm
        refine ju_eqi (v := nI (48 + dgN (mT h) (p + k))) (by unfold mSg; rw [if_pos di.1, et]; exact d1.2) ?_
        refine je_iadd (pc := 50) d12016_50 ?_
        refine ju_eqi (v := nI ((10 * (vlN (mT h) p (fv5 k))) + (48 + dgN (mT h) (p + k)))) (nI_add (10 * (vlN (mT h) p (fv5 k))) (48 + dgN (mT h) (p + k))) ?_
        refine je_bipush (pc := 51) (v := 48) d12016_51 rfl ?_
        refine je_isub (pc := 53) d12016_53 ?_
        refine ju_eqi (v := nI (((10 * (vlN (mT h) p (fv5 k))) + (48 + dgN (mT h) (p + k))) - 48)) (pk_sub (a := ((10 * (vlN (mT h) p (fv5 k))) + (48 + dgN (mT h) (p + k)))) (b := 48) (by omega)) ?_
        refine je_goto (pc := 54) 58 d12016_54 (by decide) ?_
        refine ju_eqi (v := nI (vlN (mT h) p (fv5 (k + 1)))) (congrArg nI (by have q := fv_s (k := k) (by omega); rw [q.2, vlN, q.1]; omega)) ?_
        exact jn39
  · obtain ⟨x1, x2, x3, x4⟩ := e
    have H1 := x1.St H
    have t1 : h'.2.1 253 27 = nI N := (x2 27 (by decide) (by decide)).trans ht
    have et : ∀ j, mT h' j = mT h j := fun j => by unfold mT; rw [x1.2 280 (by decide)]
    have dn := dgs_N (T := mT h) (Nat.le_of_lt hd.1)
    have f5 : ∀ k, fv5 k ≤ 5 ∧ fv5 k ≤ k := fun k => by unfold fv5; split <;> omega
    have vl := vl_lt (T := mT h) (b := p) (k := fv5 (dgs (mT h) N p)) (fun j hj => (dgN_e (dgs_in hd.1 hd.2 (j := j) (by have := f5 (dgs (mT h) N p); omega)).2).1)
    have vp : 10 ^ fv5 (dgs (mT h) N p) ≤ 10 ^ 5 := Nat.pow_le_pow_right (by decide) (f5 _).1
    refine je_aload0 (pc := 25) d12016_25 rfl ?_
    refine ju_callv (pc := 26) (as := []) d12016_26 jL_12_257 jM_Mo_isDigit rfl (by decide) (sK253 H1) rfl (by exact Nat.le_of_ble_eq_true rfl) (t_Mo_isDigit d (N := N) (p := p + dgs (mT h) N p) H1 t1 x3 hN (by omega)) (fun r26 h26 q26 => ?_)
    obtain ⟨rfl, e26⟩ := q26
    obtain rfl := e26.symm
    refine jb_ifeq (pc := 29) 72 d12016_29 (by decide) (fun c29 => ?_) (fun c29 => absurd c29 (fun z => dgs_out hd.1 hd.2 ⟨z.1, by rw [et] at z; exact z.2⟩))
    refine je_aload0 (pc := 72) d12016_72 rfl ?_
    refine ju_geti (pc := 73) d12016_73 jF_12_217 rfl (sK253 H1) ?_
    refine ju_eqi (v := nI (p + dgs (mT h) N p)) x3 ?_
    refine je_iload2 (pc := 76) d12016_76 rfl ?_
    refine je_isub (pc := 77) d12016_77 ?_
    refine ju_eqi (v := nI ((p + dgs (mT h) N p) - (p))) (pk_sub (a := (p + dgs (mT h) N p)) (b := (p)) (by omega)) ?_
    refine je_iconst (pc := 78) (v := 5) d12016_78 rfl ?_
    refine jn_icgt (pc := 79) (a := ((p + dgs (mT h) N p) - (p))) (b := 5) 87 d12016_79 (by decide) (by omega) (by omega) (fun c79 => ?_) (fun c79 => ?_)
    · refine je_aload0 (pc := 87) d12016_87 rfl ?_
      refine je_iconst (pc := 88) (v := 1) d12016_88 rfl ?_
      refine je_iload2 (pc := 89) d12016_89 rfl ?_
      refine ju_callv (pc := 90) (as := [_, _]) d12016_90 jL_12_253 jM_Mo_fails rfl (by decide) (sK253 H1) rfl (by exact Nat.le_of_ble_eq_true rfl) (t_Mo_fails (d + 1) (q := p) (c := 1) H1 (by omega) (by decide)) (fun r90 h90 q90 => ?_)
      obtain ⟨rfl, eb⟩ := q90
      rw [x4] at eb
      refine je_iload3 (pc := 93) d12016_93 rfl ?_
      refine je_iret (pc := 94) d12016_94 rfl ?_
      refine ⟨?_, ?_, rfl, ?_, ?_⟩
      · rw [eb]; exact x1.wI rfl
      · intro j a1 a2; rw [eb, wI_at, jx_up_ne _ _ a2]; exact x2 j a1 a2
      · rw [eb, wI_at, jx_up_ne _ _ (by decide), x3, dn.1]
      · rw [eb, wI_at, jx_up_self, if_pos (show 5 < dgs (mT h) N p by omega)]
    · refine je_iload3 (pc := 82) d12016_82 rfl ?_
      refine je_iload1 (pc := 83) d12016_83 rfl ?_
      refine jn_icle (pc := 84) (a := (vlN (mT h) p (fv5 (dgs (mT h) N p)))) (b := 99999) 93 d12016_84 (by decide) (by omega) (by omega) (fun c84 => ?_) (fun c84 => ?_)
      · refine je_iload3 (pc := 93) d12016_93 rfl ?_
        refine je_iret (pc := 94) d12016_94 rfl ?_
        refine ⟨x1, x2, rfl, ?_, ?_⟩
        · rw [x3, dn.1]
        · rw [x4, if_neg (by omega)]
      · refine je_aload0 (pc := 87) d12016_87 rfl ?_
        refine je_iconst (pc := 88) (v := 1) d12016_88 rfl ?_
        refine je_iload2 (pc := 89) d12016_89 rfl ?_
        refine ju_callv (pc := 90) (as := [_, _]) d12016_90 jL_12_253 jM_Mo_fails rfl (by decide) (sK253 H1) rfl (by exact Nat.le_of_ble_eq_true rfl) (t_Mo_fails (d + 1) (q := p) (c := 1) H1 (by omega) (by decide)) (fun r90 h90 q90 => ?_)
        obtain ⟨rfl, eb⟩ := q90
        rw [x4] at eb
        refine je_iload3 (pc := 93) d12016_93 rfl ?_
        refine je_iret (pc := 94) d12016_94 rfl ?_
        exfalso; omega
theorem t_Mo_digits_R (d : Nat) {bc bs : Nat} {h : jx_H} {N sl p : Nat} {U : Nat → Int32} {s : RS} (B : mrP h N sl U p s) (hN : N ≤ 400) (hd : p < N ∧ isDg (U p) = true) : jx_Tr (d + 3) bc bs 12016 [.ref 253, .int 99999] h (fun r h' => r = some (.int (nI (vlN U p (fv5 (dgs U N p))))) ∧ moF sl h h' ∧ mrP h' N sl U (tkE U N p) (if 5 < dgs U N p then flP p 1 s else s)) := by
  obtain ⟨⟨a1, a2, a3, a4, a5, a6⟩, b1, b2, b3⟩ := id B
  refine (t_Mo_digits_x d (N := N) (p := p) a1 a4 b2 hN b1 (by rw [a2]; exact hd)).mono (fun r h' e => ?_)
  obtain ⟨f1, g1, e0, p1, q1⟩ := e
  rw [a2] at e0 p1 q1
  have e1 : h'.2.1 281 = h.2.1 281 := f1.2 281 (by decide)
  have e2 : h'.2.1 282 = h.2.1 282 := f1.2 282 (by decide)
  refine ⟨e0, ⟨f1.mo (fun b z => Or.inl z), fun j x1 x2 x3 x4 => g1 j x1 x2, fun i _ => by rw [e1, e2]; exact ⟨rfl, rfl⟩⟩, ⟨f1.St a1, (mT_e f1.mn).trans a2, fun j hj => by rw [f1.2 280 (by decide)]; exact a3 j hj, (g1 27 (by decide) (by decide)).trans a4, (g1 30 (by decide) (by decide)).trans a5, (g1 36 (by decide) (by decide)).trans a6⟩, ?_, p1, ?_⟩
  · rw [q1]
    unfold flP
    by_cases c : 5 < dgs U N p
    · rw [if_pos c, if_pos c]
      split
      · rfl
      · rfl
    · rw [if_neg c, if_neg c]
  · rw [g1 34 (by decide) (by decide), g1 32 (by decide) (by decide), e1, e2]
    by_cases c : 5 < dgs U N p
    · rw [if_pos c]
      exact fun z => absurd z (fp_nz (by omega) (by decide))
    · rw [if_neg c]
      exact b3
theorem lt_dg {x : Int32} (h : isDg x = true) : ¬ isLt_ x = true := fun z => dgx_lt z h
theorem va_d {U : Nat → Int32} {N b : Nat} {s : RS} (hN : N ≤ 400) (hd : b < N ∧ isDg (U b) = true) (e : s.1 = 0 → s.2.1 = b) : (vaR U N s).1 = (adR (encR 0 (nI (vlN U b (fv5 (dgs U N b))))) (cnP b (if 5 < dgs U N b then flP b 1 s else s))).1 ∧ ((vaR U N s).1 = 0 → skB U N (tkE U N b) = (vaR U N s).2.1 ∧ (vaR U N s).2.2 = (adR (encR 0 (nI (vlN U b (fv5 (dgs U N b))))) (cnP b (if 5 < dgs U N b then flP b 1 s else s))).2.2) := by
  by_cases f : s.1 = 0
  · have eb := e f
    subst eb
    have nl : ¬ (s.2.1 < N ∧ isLt_ (U s.2.1) = true) := fun z => lt_dg hd.2 z.2
    by_cases c : 5 < dgs U N s.2.1
    · rw [if_pos c]
      have ev : vaR U N s = (fltI s.2.1 1, s.2) := by
        unfold vaR vkR
        rw [if_neg nl, nbK_1 hd (Or.inl c)]
        exact bl_o f
      have ef : flP s.2.1 1 s = (fltI s.2.1 1, s.2) := if_pos f
      have nz : ¬ fltI s.2.1 1 = 0 := flt_nz (by omega) (by decide)
      rw [ev, ef]
      have ec : cnP s.2.1 (fltI s.2.1 1, s.2) = (fltI s.2.1 1, s.2) := if_neg nz
      rw [ec, ad_f (s := (fltI s.2.1 1, s.2)) nz]
      exact ⟨rfl, fun z => absurd z nz⟩
    · rw [if_neg c]
      have g5 : dgs U N s.2.1 ≤ 5 := by omega
      have vl : vlN U s.2.1 (fv5 (dgs U N s.2.1)) < 100000 := by
        have w : fv5 (dgs U N s.2.1) ≤ 5 := by unfold fv5; split <;> omega
        have z := vl_lt (T := U) (b := s.2.1) (k := fv5 (dgs U N s.2.1)) (fun j hj => (dgN_e (dgs_in hd.1 hd.2 (j := j) (by unfold fv5 at hj; split at hj <;> omega)).2).1)
        exact Nat.lt_of_lt_of_le z (Nat.pow_le_pow_right (by decide) w)
      have nk : nbK U N s.2.1 0 99999 = none := nbK_n hd (fun z => by
        rcases z with z | z | z
        · exact c z
        · exact nI_pos (by omega) z
        · rw [fa_lt, nI_toInt (by omega)] at z
          have e9 : (99999 : Int32).toInt = 99999 := rfl
          omega)
      have ev : vaR U N s = adR (nI (vlN U s.2.1 (fv5 (dgs U N s.2.1)))) (avR U N (cnR s)) := by
        unfold vaR vkR vxR
        rw [if_neg nl, nk, if_neg nl]
      have ex : encR 0 (nI (vlN U s.2.1 (fv5 (dgs U N s.2.1)))) = nI (vlN U s.2.1 (fv5 (dgs U N s.2.1))) := if_pos rfl
      rw [ev, ex]
      by_cases q : 60 ≤ s.2.2.1
      · have nz : ¬ fltI s.2.1 3 = 0 := flt_nz (by omega) (by decide)
        have ec : cnP s.2.1 s = (fltI s.2.1 3, s.2) := by unfold cnP; rw [if_pos f, if_pos q]
        rw [cn_x f q, ec, av_f (s := (fltI s.2.1 3, s.2)) nz, ad_f (s := (fltI s.2.1 3, s.2)) nz]
        exact ⟨rfl, fun z => absurd z nz⟩
      · have ec : cnP s.2.1 s = (0, s.2.1, s.2.2.1 + 1, s.2.2.2) := by unfold cnP; rw [if_pos f, if_neg q, f]
        rw [cn_o f q, ec, av_o rfl, ad_o rfl, ad_o rfl]
        exact ⟨rfl, fun _ => ⟨rfl, rfl⟩⟩
  · have n1 : ¬ (if 5 < dgs U N b then flP b 1 s else s).1 = 0 := by
      split
      · exact fp_nz (by omega) (by decide)
      · exact f
    have e1 : (if 5 < dgs U N b then flP b 1 s else s) = s := by
      split
      · exact if_neg f
      · rfl
    rw [e1]
    have ec : cnP b s = s := if_neg f
    rw [ec, ad_f f, va_f f]
    exact ⟨rfl, fun z => absurd z f⟩
theorem kw_lt {U : Nat → Int32} {N b : Nat} (h : kwR U N b < 12) : b < N ∧ isLt_ (U b) = true := (kw_is h).1
theorem va_k {U : Nat → Int32} {N b : Nat} {s : RS} (hN : N ≤ 400) (hb : b ≤ N) (hk : kwR U N b < 12) (e : s.1 = 0 → s.2.1 = b) : (vaR U N s).1 = (adR (encR 1 (nI (kwR U N b))) (cnP b s)).1 ∧ ((vaR U N s).1 = 0 → skB U N (tkE U N b) = (vaR U N s).2.1 ∧ (vaR U N s).2.2 = (adR (encR 1 (nI (kwR U N b))) (cnP b s)).2.2) := by
  have le := kw_lt hk
  by_cases f : s.1 = 0
  · have eb := e f
    subst eb
    have ev : vaR U N s = adR (nI (100000 + kwR U N s.2.1)) (avR U N (cnR s)) := by
      unfold vaR vkR vxR
      rw [if_pos le, if_neg (by omega), if_pos le]
    have ex : encR 1 (nI (kwR U N s.2.1)) = nI (100000 + kwR U N s.2.1) := by
      unfold encR
      rw [if_neg (by decide), if_pos rfl, show (100000 : Int32) = nI 100000 from rfl, nI_add]
    rw [ev, ex]
    by_cases q : 60 ≤ s.2.2.1
    · have nz : ¬ fltI s.2.1 3 = 0 := flt_nz (by omega) (by decide)
      have ec : cnP s.2.1 s = (fltI s.2.1 3, s.2) := by unfold cnP; rw [if_pos f, if_pos q]
      rw [cn_x f q, ec, av_f (s := (fltI s.2.1 3, s.2)) nz, ad_f (s := (fltI s.2.1 3, s.2)) nz]
      exact ⟨rfl, fun z => absurd z nz⟩
    · have ec : cnP s.2.1 s = (0, s.2.1, s.2.2.1 + 1, s.2.2.2) := by unfold cnP; rw [if_pos f, if_neg q, f]
      rw [cn_o f q, ec, av_o rfl, ad_o rfl, ad_o rfl]
      exact ⟨rfl, fun _ => ⟨rfl, rfl⟩⟩
  · have ec : cnP b s = s := if_neg f
    rw [ec, ad_f f, va_f f]
    exact ⟨rfl, fun z => absurd z f⟩
theorem va_0 {U : Nat → Int32} {N b : Nat} {s : RS} (hN : N ≤ 400) (hb : b ≤ N) (nd : ¬ (b < N ∧ isDg (U b) = true)) (hk : kwR U N b = 12) (e : s.1 = 0 → s.2.1 = b) : (vaR U N s).1 = (flP b 0 s).1 ∧ ¬ (vaR U N s).1 = 0 := by
  by_cases f : s.1 = 0
  · have eb := e f
    subst eb
    have ev : vaR U N s = (fltI s.2.1 0, s.2) := by
      unfold vaR vkR
      by_cases le : s.2.1 < N ∧ isLt_ (U s.2.1) = true
      · rw [if_pos le, if_pos hk]; exact bl_o f
      · rw [if_neg le, nbK_0 nd]; exact bl_o f
    have ef : flP s.2.1 0 s = (fltI s.2.1 0, s.2) := if_pos f
    rw [ev, ef]
    exact ⟨rfl, flt_nz (by omega) (by decide)⟩
  · have ef : flP b 0 s = s := if_neg f
    rw [va_f f, ef]
    exact ⟨rfl, f⟩
theorem mW_w : ∀ k, k < 12 → wdO (23 + k) = wdO (11 + k) := by decide +kernel
set_option maxHeartbeats 2000000 in
theorem t_Mo_wordOf (d : Nat) {bc bs : Nat} {h : jx_H} {k : Nat} (hk : k < 12) : jx_Tr (d + 1) bc bs 12032 [.int (nI k)] h (fun r h' => r = some (.ref (1000000 + (23 + k))) ∧ h' = h) := by
  refine jx_tr jM_Mo_wordOf rfl rfl (lv := [some (.int (nI k))]) rfl ?_
  refine je_iload0 (pc := 0) d12032_0 rfl ?_
  by_cases s1_0 : nI k = 0
  · refine je_table (pc := 1) 60 d12032_1 (by rw [s1_0]; decide) (by rw [s1_0]; decide) (off := 59) (by rw [s1_0]; rfl) (by decide) ?_
    refine je_ldcS (pc := 60) (e := 23) d12032_60 rfl ?_
    refine je_aret (pc := 62) d12032_62 rfl ?_
    have ek : k = 0 := (nI_eq (by omega) (by decide)).mp s1_0
    subst ek
    exact ⟨rfl, rfl⟩
  by_cases s1_1 : nI k = 1
  · refine je_table (pc := 1) 63 d12032_1 (by rw [s1_1]; decide) (by rw [s1_1]; decide) (off := 62) (by rw [s1_1]; rfl) (by decide) ?_
    refine je_ldcS (pc := 63) (e := 24) d12032_63 rfl ?_
    refine je_aret (pc := 65) d12032_65 rfl ?_
    have ek : k = 1 := (nI_eq (by omega) (by decide)).mp s1_1
    subst ek
    exact ⟨rfl, rfl⟩
  by_cases s1_2 : nI k = 2
  · refine je_table (pc := 1) 66 d12032_1 (by rw [s1_2]; decide) (by rw [s1_2]; decide) (off := 65) (by rw [s1_2]; rfl) (by decide) ?_
    refine je_ldcS (pc := 66) (e := 25) d12032_66 rfl ?_
    refine je_aret (pc := 68) d12032_68 rfl ?_
    have ek : k = 2 := (nI_eq (by omega) (by decide)).mp s1_2
    subst ek
    exact ⟨rfl, rfl⟩
  by_cases s1_3 : nI k = 3
  · refine je_table (pc := 1) 69 d12032_1 (by rw [s1_3]; decide) (by rw [s1_3]; decide) (off := 68) (by rw [s1_3]; rfl) (by decide) ?_
    refine je_ldcS (pc := 69) (e := 26) d12032_69 rfl ?_
    refine je_aret (pc := 71) d12032_71 rfl ?_
    have ek : k = 3 := (nI_eq (by omega) (by decide)).mp s1_3
    subst ek
    exact ⟨rfl, rfl⟩
  by_cases s1_4 : nI k = 4
  · refine je_table (pc := 1) 72 d12032_1 (by rw [s1_4]; decide) (by rw [s1_4]; decide) (off := 71) (by rw [s1_4]; rfl) (by decide) ?_
    refine je_ldcS (pc := 72) (e := 27) d12032_72 rfl ?_
    refine je_aret (pc := 74) d12032_74 rfl ?_
    have ek : k = 4 := (nI_eq (by omega) (by decide)).mp s1_4
    subst ek
    exact ⟨rfl, rfl⟩
  by_cases s1_5 : nI k = 5
  · refine je_table (pc := 1) 75 d12032_1 (by rw [s1_5]; decide) (by rw [s1_5]; decide) (off := 74) (by rw [s1_5]; rfl) (by decide) ?_
    refine je_ldcS (pc := 75) (e := 28) d12032_75 rfl ?_
    refine je_aret (pc := 77) d12032_77 rfl ?_
    have ek : k = 5 := (nI_eq (by omega) (by decide)).mp s1_5
    subst ek
    exact ⟨rfl, rfl⟩
  by_cases s1_6 : nI k = 6
  · refine je_table (pc := 1) 78 d12032_1 (by rw [s1_6]; decide) (by rw [s1_6]; decide) (off := 77) (by rw [s1_6]; rfl) (by decide) ?_
    refine je_ldcS (pc := 78) (e := 29) d12032_78 rfl ?_
    refine je_aret (pc := 80) d12032_80 rfl ?_
    have ek : k = 6 := (nI_eq (by omega) (by decide)).mp s1_6
    subst ek
    exact ⟨rfl, rfl⟩
  by_cases s1_7 : nI k = 7
  · refine je_table (pc := 1) 81 d12032_1 (by rw [s1_7]; decide) (by rw [s1_7]; decide) (off := 80) (by rw [s1_7]; rfl) (by decide) ?_
    refine je_ldcS (pc := 81) (e := 30) d12032_81 rfl ?_
    refine je_aret (pc := 83) d12032_83 rfl ?_
    have ek : k = 7 := (nI_eq (by omega) (by decide)).mp s1_7
    subst ek
    exact ⟨rfl, rfl⟩
  by_cases s1_8 : nI k = 8
  · refine je_table (pc := 1) 84 d12032_1 (by rw [s1_8]; decide) (by rw [s1_8]; decide) (off := 83) (by rw [s1_8]; rfl) (by decide) ?_
    refine je_ldcS (pc := 84) (e := 31) d12032_84 rfl ?_
    refine je_aret (pc := 86) d12032_86 rfl ?_
    have ek : k = 8 := (nI_eq (by omega) (by decide)).mp s1_8
    subst ek
    exact ⟨rfl, rfl⟩
  by_cases s1_9 : nI k = 9
  · refine je_table (pc := 1) 87 d12032_1 (by rw [s1_9]; decide) (by rw [s1_9]; decide) (off := 86) (by rw [s1_9]; rfl) (by decide) ?_
    refine je_ldcS (pc := 87) (e := 32) d12032_87 rfl ?_
    refine je_aret (pc := 89) d12032_89 rfl ?_
    have ek : k = 9 := (nI_eq (by omega) (by decide)).mp s1_9
    subst ek
    exact ⟨rfl, rfl⟩
  by_cases s1_10 : nI k = 10
  · refine je_table (pc := 1) 90 d12032_1 (by rw [s1_10]; decide) (by rw [s1_10]; decide) (off := 89) (by rw [s1_10]; rfl) (by decide) ?_
    refine je_ldcS (pc := 90) (e := 33) d12032_90 rfl ?_
    refine je_aret (pc := 92) d12032_92 rfl ?_
    have ek : k = 10 := (nI_eq (by omega) (by decide)).mp s1_10
    subst ek
    exact ⟨rfl, rfl⟩
  have ns1_0 := lv_neT s1_0 (a := 0) rfl
  have ns1_1 := lv_neT s1_1 (a := 1) rfl
  have ns1_2 := lv_neT s1_2 (a := 2) rfl
  have ns1_3 := lv_neT s1_3 (a := 3) rfl
  have ns1_4 := lv_neT s1_4 (a := 4) rfl
  have ns1_5 := lv_neT s1_5 (a := 5) rfl
  have ns1_6 := lv_neT s1_6 (a := 6) rfl
  have ns1_7 := lv_neT s1_7 (a := 7) rfl
  have ns1_8 := lv_neT s1_8 (a := 8) rfl
  have ns1_9 := lv_neT s1_9 (a := 9) rfl
  have ns1_10 := lv_neT s1_10 (a := 10) rfl
  refine je_tableO (pc := 1) 93 d12032_1 (by omega) (by decide) ?_
  refine je_ldcS (pc := 93) (e := 34) d12032_93 rfl ?_
  refine je_aret (pc := 95) d12032_95 rfl ?_
  have ek : k = 11 := by
    have z0 : k ≠ 0 := fun z => s1_0 (by rw [z]; rfl)
    have z1 : k ≠ 1 := fun z => s1_1 (by rw [z]; rfl)
    have z2 : k ≠ 2 := fun z => s1_2 (by rw [z]; rfl)
    have z3 : k ≠ 3 := fun z => s1_3 (by rw [z]; rfl)
    have z4 : k ≠ 4 := fun z => s1_4 (by rw [z]; rfl)
    have z5 : k ≠ 5 := fun z => s1_5 (by rw [z]; rfl)
    have z6 : k ≠ 6 := fun z => s1_6 (by rw [z]; rfl)
    have z7 : k ≠ 7 := fun z => s1_7 (by rw [z]; rfl)
    have z8 : k ≠ 8 := fun z => s1_8 (by rw [z]; rfl)
    have z9 : k ≠ 9 := fun z => s1_9 (by rw [z]; rfl)
    have z10 : k ≠ 10 := fun z => s1_10 (by rw [z]; rfl)
    omega
  subst ek
  exact ⟨rfl, rfl⟩
set_option maxHeartbeats 4000000 in
theorem t_Mo_value (d : Nat) {bc bs : Nat} {h : jx_H} {N sl : Nat} {U : Nat → Int32} {s : RS} (B0 : mrI h N sl U s) (hN : N ≤ 400) (hsl : sl < 6) (I : iR U N s) : jx_Tr (d + 6) bc bs 12029 [.ref 253] h (fun r h' => r = none ∧ moF sl h h' ∧ mrI h' N sl U (vaR U N s)) := by
  refine jx_tr jM_Mo_value rfl rfl (lv := [some (.ref 253), none, none]) rfl ?_
  obtain ⟨p, hp, B, eB⟩ := B0
  have hb : (skB U N p) ≤ N := sk_N hp
  have eb : s.1 = 0 → s.2.1 = (skB U N p) := fun f => (eB f).symm
  have kl := kw_le (T := U) (N := N) (b := (skB U N p))
  refine je_aload0 (pc := 0) d12029_0 rfl ?_
  refine ju_callv (pc := 1) (as := []) d12029_1 jL_12_237 jM_Mo_blanks rfl (by decide) (sK253 B.1.1) rfl (by exact Nat.le_of_ble_eq_true rfl) (t_Mo_blanks_R (d + 3) B hN (by omega)) (fun r1 h1 q1 => ?_)
  obtain ⟨rfl, F1, B1⟩ := q1
  refine je_aload0 (pc := 4) d12029_4 rfl ?_
  refine ju_geti (pc := 5) d12029_5 jF_12_217 rfl (sK253 B1.1.1) ?_
  refine ju_eqi (v := nI (skB U N p)) B1.2.2.1 ?_
  refine ju_istore1 (pc := 8) (lv' := [some _, some _, none]) d12029_8 rfl rfl ?_
  refine je_aload0 (pc := 9) d12029_9 rfl ?_
  refine ju_callv (pc := 10) (as := []) d12029_10 jL_12_257 jM_Mo_isDigit rfl (by decide) (sK253 B1.1.1) rfl (by exact Nat.le_of_ble_eq_true rfl) (t_Mo_isDigit_R (d + 3) B1 hN (by omega)) (fun r10 h10 q10 => ?_)
  obtain ⟨rfl, e10⟩ := q10
  obtain rfl := e10.symm
  refine jb_ifeq (pc := 13) 36 d12029_13 (by decide) (fun c13 => ?_) (fun c13 => ?_)
  · refine je_iconst (pc := 36) (v := 0) d12029_36 rfl ?_
    refine ju_istore2 (pc := 37) (lv' := [some _, some _, some _]) d12029_37 rfl rfl ?_
    have nd := c13
    refine je_loop (σ := Unit) ((kwR U N (skB U N p))) (fun k xx => [some (.ref 253), some (.int (nI (skB U N p))), some (.int (nI k))]) (fun _ _ h' => h' = h1) (fun k xx h' hk e kk => ?_) (fun xx h' e => ?_) (0) () h1 (by omega) rfl
    · obtain rfl := e.symm
      refine je_iload2 (pc := 38) d12029_38 rfl ?_
      refine je_aload0 (pc := 39) d12029_39 rfl ?_
      refine ju_geti (pc := 40) d12029_40 jF_12_88 rfl (sK253 B1.1.1) ?_
      refine ju_eqi (v := nI 12) B1.1.2.2.2.2.2 ?_
      refine jn_icge (pc := 43) (a := (k)) (b := (12)) 63 d12029_43 (by decide) (by omega) (by omega) (fun c43 => by exfalso; omega) (fun c43 => ?_)
      refine je_aload0 (pc := 46) d12029_46 rfl ?_
      refine je_iload2 (pc := 47) d12029_47 rfl ?_
      refine ju_calls (pc := 48) (as := [_]) d12029_48 jL_12_272 jM_Mo_wordOf rfl rfl (by exact Nat.le_of_ble_eq_true rfl) (t_Mo_wordOf (d + 4) (k := k) (by omega)) (fun r48 h48 q48 => ?_)
      obtain ⟨rfl, e48⟩ := q48
      obtain rfl := e48.symm
      refine ju_callv (pc := 51) (as := [_]) d12029_51 jL_12_240 jM_Mo_stood rfl (by decide) (sK253 B1.1.1) rfl (by exact Nat.le_of_ble_eq_true rfl) (t_Mo_stood_R d (e := 23 + k) (by omega) B1 hN hb) (fun r51 h51 q51 => ?_)
      obtain ⟨rfl, e51⟩ := q51
      obtain rfl := e51.symm
      rw [mW_w k (by omega)]
      refine jb_ifne (pc := 54) 63 d12029_54 (by decide) (fun c54 => absurd c54 (kw_no hk)) (fun c54 => ?_)
      refine ju_incN (pc := 57) (v := nI ((k) + 1)) (lv' := [some _, some _, some _]) d12029_57 rfl (nI_1 (k)) rfl ?_
      refine je_goto (pc := 60) 38 d12029_60 (by decide) ?_
      refine kk () _ rfl
    · obtain rfl := e.symm
      refine je_iload2 (pc := 38) d12029_38 rfl ?_
      refine je_aload0 (pc := 39) d12029_39 rfl ?_
      refine ju_geti (pc := 40) d12029_40 jF_12_88 rfl (sK253 B1.1.1) ?_
      refine ju_eqi (v := nI 12) B1.1.2.2.2.2.2 ?_
      refine jn_icge (pc := 43) (a := (((kwR U N (skB U N p))))) (b := (12)) 63 d12029_43 (by decide) (by omega) (by omega) (fun c43 => ?_) (fun c43 => ?_)
      · refine je_iload2 (pc := 63) d12029_63 rfl ?_
        refine je_aload0 (pc := 64) d12029_64 rfl ?_
        refine ju_geti (pc := 65) d12029_65 jF_12_88 rfl (sK253 B1.1.1) ?_
        refine ju_eqi (v := nI 12) B1.1.2.2.2.2.2 ?_
        refine jn_icne (pc := 68) (a := ((kwR U N (skB U N p)))) (b := (12)) 78 d12029_68 (by decide) (by omega) (by omega) (fun c68 => by exfalso; omega) (fun c68 => ?_)
        refine je_aload0 (pc := 71) d12029_71 rfl ?_
        refine je_iconst (pc := 72) (v := 0) d12029_72 rfl ?_
        refine je_iload1 (pc := 73) d12029_73 rfl ?_
        refine ju_callv (pc := 74) (as := [_, _]) d12029_74 jL_12_253 jM_Mo_fails rfl (by decide) (sK253 B1.1.1) rfl (by exact Nat.le_of_ble_eq_true rfl) (t_Mo_fails_R (d + 4) (q := (skB U N p)) (c := 0) B1 (by omega) (by decide)) (fun r74 h74 q74 => ?_)
        obtain ⟨rfl, F2, B2⟩ := q74
        refine je_ret (pc := 77) d12029_77 rfl ?_
        obtain ⟨v1, v2⟩ := va_0 hN hb nd (by omega) eb
        exact ⟨rfl, F1.tr F2, mr_go B2 hb v1 (fun z => absurd z v2)⟩
      · refine je_aload0 (pc := 46) d12029_46 rfl ?_
        refine je_iload2 (pc := 47) d12029_47 rfl ?_
        refine ju_calls (pc := 48) (as := [_]) d12029_48 jL_12_272 jM_Mo_wordOf rfl rfl (by exact Nat.le_of_ble_eq_true rfl) (t_Mo_wordOf (d + 4) (k := (kwR U N (skB U N p))) (by omega)) (fun r48 h48 q48 => ?_)
        obtain ⟨rfl, e48⟩ := q48
        obtain rfl := e48.symm
        refine ju_callv (pc := 51) (as := [_]) d12029_51 jL_12_240 jM_Mo_stood rfl (by decide) (sK253 B1.1.1) rfl (by exact Nat.le_of_ble_eq_true rfl) (t_Mo_stood_R d (e := 23 + (kwR U N (skB U N p))) (by omega) B1 hN hb) (fun r51 h51 q51 => ?_)
        obtain ⟨rfl, e51⟩ := q51
        obtain rfl := e51.symm
        rw [mW_w (kwR U N (skB U N p)) (by omega)]
        refine jb_ifne (pc := 54) 63 d12029_54 (by decide) (fun c54 => ?_) (fun c54 => absurd c54 (fun z => z (kw_is (by omega))))
        have kl2 : (kwR U N (skB U N p)) < 12 := by omega
        refine je_iload2 (pc := 63) d12029_63 rfl ?_
        refine je_aload0 (pc := 64) d12029_64 rfl ?_
        refine ju_geti (pc := 65) d12029_65 jF_12_88 rfl (sK253 B1.1.1) ?_
        refine ju_eqi (v := nI 12) B1.1.2.2.2.2.2 ?_
        refine jn_icne (pc := 68) (a := ((kwR U N (skB U N p)))) (b := (12)) 78 d12029_68 (by decide) (by omega) (by omega) (fun c68 => ?_) (fun c68 => by exfalso; omega)
        refine je_aload0 (pc := 78) d12029_78 rfl ?_
        refine je_iload1 (pc := 79) d12029_79 rfl ?_
        refine ju_callv (pc := 80) (as := [_]) d12029_80 jL_12_266 jM_Mo_isCounted rfl (by decide) (sK253 B1.1.1) rfl (by exact Nat.le_of_ble_eq_true rfl) (t_Mo_isCounted (d + 3) (q := (skB U N p)) B1 (by omega) (fun f => (I.1 f).2.2)) (fun r80 h80 q80 => ?_)
        obtain ⟨rfl, F2, B2⟩ := q80
        refine je_aload0 (pc := 83) d12029_83 rfl ?_
        refine je_dup (pc := 84) d12029_84 rfl ?_
        refine ju_geti (pc := 85) d12029_85 jF_12_217 rfl (sK253 B2.1.1) ?_
        refine ju_eqi (v := nI (skB U N p)) B2.2.2.1 ?_
        refine je_iload2 (pc := 88) d12029_88 rfl ?_
        refine ju_calls (pc := 89) (as := [_]) d12029_89 jL_12_272 jM_Mo_wordOf rfl rfl (by exact Nat.le_of_ble_eq_true rfl) (t_Mo_wordOf (d + 4) (k := (kwR U N (skB U N p))) (by omega)) (fun r89 h89 q89 => ?_)
        obtain ⟨rfl, e89⟩ := q89
        obtain rfl := e89.symm
        refine je_callS (pc := 92) (as := []) d12029_92 jL_12_228 jM_Str_length rfl rfl (sq_q (show 23 + (kwR U N (skB U N p)) < 44 by omega)) rfl (Nat.le_of_ble_eq_true rfl) (t_Str_length (d + 3) (sq_q (show 23 + (kwR U N (skB U N p)) < 44 by omega))) (fun r92 h92 q92 => ?_)
        obtain ⟨rfl, e92⟩ := q92
        obtain rfl := e92.symm
        refine je_iadd (pc := 95) d12029_95 ?_
        refine ju_eqi (v := nI (((skB U N p)) + ((wdO (23 + (kwR U N (skB U N p)))).length))) (nI_add ((skB U N p)) ((wdO (23 + (kwR U N (skB U N p)))).length)) ?_
        refine ju_puti (pc := 96) d12029_96 jF_12_217 rfl (sK253 B2.1.1) ?_
        have wl := wd_tk (kw_is (T := U) (N := N) (b := (skB U N p)) kl2)
        rw [← mW_w (kwR U N (skB U N p)) (by omega)] at wl
        have B3 := B2.p ((skB U N p) + (wdO (23 + (kwR U N (skB U N p)))).length)
        rw [← wl] at B3
        rw [← wl]
        refine je_aload0 (pc := 99) d12029_99 rfl ?_
        refine je_iconst (pc := 100) (v := 1) d12029_100 rfl ?_
        refine je_iload2 (pc := 101) d12029_101 rfl ?_
        refine ju_callv (pc := 102) (as := [_, _]) d12029_102 jL_12_269 jM_Mo_entry rfl (by decide) (sK253 B2.1.1.wI) rfl (by exact Nat.le_of_ble_eq_true rfl) (t_Mo_entry (d + 4) (so := 1) (nu := nI (kwR U N (skB U N p))) B3 hsl (fun f => by rw [cp_E.1]; have := i_len I hN (cp_0 (by omega) f).1; omega) (fun _ => Or.inr (Or.inl ⟨rfl, _, kl2, rfl⟩))) (fun r102 h102 q102 => ?_)
        obtain ⟨rfl, F4, B4⟩ := q102
        refine je_ret (pc := 105) d12029_105 rfl ?_
        obtain ⟨v1, v2⟩ := va_k hN hb kl2 eb
        exact ⟨rfl, ((F1.tr F2).tr (moF.w (Or.inl rfl))).tr F4, mr_go B4 (tk_N hb).2 v1 v2⟩
  · refine je_aload0 (pc := 16) d12029_16 rfl ?_
    refine je_ldcw (pc := 17) d12029_17 jK_12_261 ?_
    refine ju_callv (pc := 20) (as := [_]) d12029_20 jL_12_262 jM_Mo_digits rfl (by decide) (sK253 B1.1.1) rfl (by exact Nat.le_of_ble_eq_true rfl) (t_Mo_digits_R (d + 2) B1 hN c13) (fun r20 h20 q20 => ?_)
    obtain ⟨rfl, F2, B2⟩ := q20
    refine ju_istore2 (pc := 23) (lv' := [some _, some _, some _]) d12029_23 rfl rfl ?_
    have z6 : (if 5 < dgs U N (skB U N p) then flP (skB U N p) 1 s else s).1 = 0 → ¬ 5 < dgs U N (skB U N p) ∧ s.1 = 0 := fun f => by
      by_cases c : 5 < dgs U N (skB U N p)
      · rw [if_pos c] at f; exact absurd f (fp_nz (by omega) (by decide))
      · rw [if_neg c] at f; exact ⟨c, f⟩
    have c6 : (if 5 < dgs U N (skB U N p) then flP (skB U N p) 1 s else s).1 = 0 → (if 5 < dgs U N (skB U N p) then flP (skB U N p) 1 s else s).2.2.1 ≤ 60 := fun f => by
      obtain ⟨y1, y2⟩ := z6 f
      rw [if_neg y1]; exact (I.1 y2).2.2
    have l6 : (if 5 < dgs U N (skB U N p) then flP (skB U N p) 1 s else s).1 = 0 → (if 5 < dgs U N (skB U N p) then flP (skB U N p) 1 s else s).2.2.2.length < 300 ∧ (vlN U (skB U N p) (fv5 (dgs U N (skB U N p)))) < 100000 := fun f => by
      obtain ⟨y1, y2⟩ := z6 f
      rw [if_neg y1]
      refine ⟨by have := i_len I hN y2; omega, ?_⟩
      have w : fv5 (dgs U N (skB U N p)) ≤ 5 := by unfold fv5; split <;> omega
      have z := vl_lt (T := U) (b := (skB U N p)) (k := fv5 (dgs U N (skB U N p))) (fun j hj => (dgN_e (dgs_in c13.1 c13.2 (j := j) (by unfold fv5 at hj; split at hj <;> omega)).2).1)
      exact Nat.lt_of_lt_of_le z (Nat.pow_le_pow_right (by decide) w)
    refine je_aload0 (pc := 24) d12029_24 rfl ?_
    refine je_iload1 (pc := 25) d12029_25 rfl ?_
    refine ju_callv (pc := 26) (as := [_]) d12029_26 jL_12_266 jM_Mo_isCounted rfl (by decide) (sK253 B2.1.1) rfl (by exact Nat.le_of_ble_eq_true rfl) (t_Mo_isCounted (d + 3) (q := (skB U N p)) B2 (by omega) (fun f => c6 f)) (fun r26 h26 q26 => ?_)
    obtain ⟨rfl, F3, B3⟩ := q26
    refine je_aload0 (pc := 29) d12029_29 rfl ?_
    refine je_iconst (pc := 30) (v := 0) d12029_30 rfl ?_
    refine je_iload2 (pc := 31) d12029_31 rfl ?_
    refine ju_callv (pc := 32) (as := [_, _]) d12029_32 jL_12_269 jM_Mo_entry rfl (by decide) (sK253 B3.1.1) rfl (by exact Nat.le_of_ble_eq_true rfl) (t_Mo_entry (d + 4) (so := 0) (nu := nI (vlN U (skB U N p) (fv5 (dgs U N (skB U N p))))) B3 hsl (fun f => by rw [cp_E.1]; exact (l6 (cp_0 (by omega) f).1).1) (fun f => Or.inl ⟨rfl, _, (l6 (cp_0 (by omega) f).1).2, rfl⟩)) (fun r32 h32 q32 => ?_)
    obtain ⟨rfl, F4, B4⟩ := q32
    refine je_ret (pc := 35) d12029_35 rfl ?_
    obtain ⟨v1, v2⟩ := va_d hN c13 eb
    exact ⟨rfl, ((F1.tr F2).tr F3).tr F4, mr_go B4 (tk_N hb).2 v1 v2⟩
