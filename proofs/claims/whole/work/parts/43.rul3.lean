/-! rules: crept, held; bits -/
theorem ev_tr {c : Nat → Int32} {wd : Nat → Int64} {a n : Nat} (ht : rpt c a n [] = some [true]) : (evR c wd a n).headD 0 = 0 ∨ (evR c wd a n).headD 0 = 1 := by
  obtain ⟨m1, -⟩ := ev_mt (wd := wd) ht
  match evR c wd a n, m1 with
  | [y], m1 => exact m1.1 rfl
set_option maxHeartbeats 2000000 in
theorem mo_sum {d bc bs : Nat} {h h' : jx_H} {f : Nat} {r : MR} (H : jx_St h) (hf : f < 6) (h8 : h.2.1 254 8 = nI f) (mr : mRu h.2.1 f r) (wf : wfR r) (e1 : fC (fun _ => False) h h') (e2 : ∀ b, b ≠ 289 → h'.2.2.1 b = h.2.2.1 b) {k : Nat} (hk : k < r.1.1) : jx_Ev (d + 4) bc bs 12064 65 [some (.ref 253), some (.int (nI f)), some (.int (nI (12 * f + k)))] [] h' (fun r' h' => r' = some (.long ((evR r.2.1 (h.2.2.1 288) (r.2.2.1 k) (r.2.2.2.1 k - r.2.2.1 k)).headD 0)) ∧ fC (fun _ => False) h h' ∧ ∀ b, b ≠ 289 → h'.2.2.1 b = h.2.2.1 b) := by
  have w0 := wf.1
  have H1 := e1.St H
  have w5 := wf.2.1
  obtain ⟨w1, w2, w3, w4, w6⟩ := wf.2.2.2 k hk
  obtain ⟨c1, c2, c3⟩ := mr.2.2 k hk
  have es : h'.2.1 284 (12 * f + k) = nI (r.2.2.1 k) := by rw [e1.2 _ (fun z => z)]; exact c1
  have et : h'.2.1 285 (12 * f + k) = nI (r.2.2.2.1 k) := by rw [e1.2 _ (fun z => z)]; exact c2
  have et2 : h'.2.1 285 (12 * f + k) = nI (r.2.2.1 k + (r.2.2.2.1 k - r.2.2.1 k)) := by rw [et, show r.2.2.1 k + (r.2.2.2.1 k - r.2.2.1 k) = r.2.2.2.1 k by omega]
  have ee : h'.2.1 286 (12 * f + k) = nI (r.2.2.2.2 k) := by rw [e1.2 _ (fun z => z)]; exact c3
  have ee2 : h'.2.1 286 (12 * f + k) = nI (r.2.2.2.1 k + (r.2.2.2.2 k - r.2.2.2.1 k)) := by rw [ee, show r.2.2.2.1 k + (r.2.2.2.2 k - r.2.2.2.1 k) = r.2.2.2.2 k by omega]
  refine je_aload0 (pc := 65) d12064_65 rfl ?_
  refine je_iload1 (pc := 66) d12064_66 rfl ?_
  refine je_aload0 (pc := 67) d12064_67 rfl ?_
  refine ju_getr (pc := 68) (b := 284) d12064_68 jF_12_105 rfl (sK253 H1) (sR253_41 H1) ?_
  refine je_iload2 (pc := 71) d12064_71 rfl ?_
  refine ju_iald (pc := 72) (jn := (12 * f + k)) d12064_72 (sK284 H1) (vp_in_nI (by omega) (by decide)) (nI_clamp (by omega)) ?_
  refine ju_eqi (v := nI (r.2.2.1 k)) es ?_
  refine je_aload0 (pc := 73) d12064_73 rfl ?_
  refine ju_getr (pc := 74) (b := 285) d12064_74 jF_12_108 rfl (sK253 H1) (sR253_42 H1) ?_
  refine je_iload2 (pc := 77) d12064_77 rfl ?_
  refine ju_iald (pc := 78) (jn := (12 * f + k)) d12064_78 (sK285 H1) (vp_in_nI (by omega) (by decide)) (nI_clamp (by omega)) ?_
  refine ju_eqi (v := nI (r.2.2.1 k + (r.2.2.2.1 k - r.2.2.1 k))) et2 ?_
  refine ju_callv (pc := 79) (as := [_, _, _]) d12064_79 jL_12_382 jM_Mo_answer rfl (by decide) (sK253 H1) rfl (by exact Nat.le_of_ble_eq_true rfl) (t_Mo_answer d (f := f) (a := r.2.2.1 k) (n := r.2.2.2.1 k - r.2.2.1 k) (m := r.1.2) (c := r.2.1) H1 hf (fun j hj => by rw [e1.2 _ (fun z => z), e1.2 _ (fun z => z)]; exact mr.2.1 j hj) wf.2.1 (by omega) wf.2.2.1 w4) (fun r79 h79 q79 => ?_)
  obtain ⟨rfl, f1, f2⟩ := q79
  have H2 := f1.St H1
  have g1 := e1.tr f1
  have g2 : ∀ b, b ≠ 289 → h79.2.2.1 b = h.2.2.1 b := fun b hb => (f2 b hb).trans (e2 b hb)
  refine je_lret (pc := 82) d12064_82 rfl ?_
  exact ⟨by rw [e2 288 (by decide)], g1, g2⟩
set_option maxHeartbeats 2000000 in
theorem t_Mo_crept (d : Nat) {bc bs : Nat} {h : jx_H} {f : Nat} {r : MR} (H : jx_St h) (hf : f < 6) (h8 : h.2.1 254 8 = nI f) (mr : mRu h.2.1 f r) (wf : wfR r) : jx_Tr (d + 4) bc bs 12064 [.ref 253] h (fun r' h' => r' = some (.long (crL r (h.2.2.1 288) r.1.1 0)) ∧ fC (fun _ => False) h h' ∧ ∀ b, b ≠ 289 → h'.2.2.1 b = h.2.2.1 b) := by
  refine jx_tr jM_Mo_crept rfl rfl (lv := [some (.ref 253), none, none]) rfl ?_
  refine je_aload0 (pc := 0) d12064_0 rfl ?_
  refine ju_getr (pc := 1) (b := 254) d12064_1 jF_12_9 rfl (sK253 H) (sR253_1 H) ?_
  refine je_bipush (pc := 4) (v := 8) d12064_4 rfl ?_
  refine ju_iald (pc := 6) (jn := 8) d12064_6 (sK254 H) (by first | assumption | exact jx_ok_dec (by decide)) (by decide) ?_
  refine ju_eqi (v := nI f) h8 ?_
  refine ju_istore1 (pc := 7) (lv' := [some _, some _, none]) d12064_7 rfl rfl ?_
  refine je_bipush (pc := 8) (v := 12) d12064_8 rfl ?_
  refine je_iload1 (pc := 10) d12064_10 rfl ?_
  refine je_imul (pc := 11) d12064_11 ?_
  refine ju_eqi (v := nI (12 * f)) (pk_mul 12 f) ?_
  refine ju_istore2 (pc := 12) (lv' := [some _, some _, some _]) d12064_12 rfl rfl ?_
  refine je_loop (σ := Unit) (r.1.1) (fun k xx => [some (.ref 253), some (.int (nI f)), some (.int (nI (12 * f + k)))]) (fun k _ h' => fC (fun _ => False) h h' ∧ (∀ b, b ≠ 289 → h'.2.2.1 b = h.2.2.1 b) ∧ crL r (h.2.2.1 288) (r.1.1 - k) k = crL r (h.2.2.1 288) r.1.1 0) (fun k xx h' hk e kk => ?_) (fun xx h' e => ?_) (0) () h (by omega) ⟨fC.rf, fun _ _ => rfl, rfl⟩
  · obtain ⟨e1, e2, e3⟩ := e
    have w0 := wf.1
    have H1 := e1.St H
    have w5 := wf.2.1
    have ec : h'.2.1 283 f = nI r.1.1 := by rw [e1.2 _ (fun z => z)]; exact mr.1
    obtain ⟨w1, w2, w3, w4, w6⟩ := wf.2.2.2 k hk
    obtain ⟨c1, c2, c3⟩ := mr.2.2 k hk
    have es : h'.2.1 284 (12 * f + k) = nI (r.2.2.1 k) := by rw [e1.2 _ (fun z => z)]; exact c1
    have et : h'.2.1 285 (12 * f + k) = nI (r.2.2.2.1 k) := by rw [e1.2 _ (fun z => z)]; exact c2
    have et2 : h'.2.1 285 (12 * f + k) = nI (r.2.2.1 k + (r.2.2.2.1 k - r.2.2.1 k)) := by rw [et, show r.2.2.1 k + (r.2.2.2.1 k - r.2.2.1 k) = r.2.2.2.1 k by omega]
    have ee : h'.2.1 286 (12 * f + k) = nI (r.2.2.2.2 k) := by rw [e1.2 _ (fun z => z)]; exact c3
    have ee2 : h'.2.1 286 (12 * f + k) = nI (r.2.2.2.1 k + (r.2.2.2.2 k - r.2.2.2.1 k)) := by rw [ee, show r.2.2.2.1 k + (r.2.2.2.2 k - r.2.2.2.1 k) = r.2.2.2.2 k by omega]
    rw [show r.1.1 - k = (r.1.1 - (k + 1)) + 1 by omega, crL] at e3
    refine je_iload2 (pc := 13) d12064_13 rfl ?_
    refine je_bipush (pc := 14) (v := 12) d12064_14 rfl ?_
    refine je_iload1 (pc := 16) d12064_16 rfl ?_
    refine je_imul (pc := 17) d12064_17 ?_
    refine ju_eqi (v := nI (12 * f)) (pk_mul 12 f) ?_
    refine je_aload0 (pc := 18) d12064_18 rfl ?_
    refine ju_getr (pc := 19) (b := 283) d12064_19 jF_12_102 rfl (sK253 H1) (sR253_40 H1) ?_
    refine je_iload1 (pc := 22) d12064_22 rfl ?_
    refine ju_iald (pc := 23) (jn := (f)) d12064_23 (sK283 H1) (vp_in_nI (by omega) (by decide)) (nI_clamp (by omega)) ?_
    refine ju_eqi (v := nI r.1.1) ec ?_
    refine je_iadd (pc := 24) d12064_24 ?_
    refine ju_eqi (v := nI (12 * f + r.1.1)) (nI_add _ _) ?_
    refine ju_icge (pc := 25) 89 d12064_25 (by decide) (fun c25 => absurd c25 (fun z => z (nI_lt (by omega) (by omega)))) (fun c25 => ?_)
    refine je_aload0 (pc := 28) d12064_28 rfl ?_
    refine ju_getr (pc := 29) (b := 285) d12064_29 jF_12_108 rfl (sK253 H1) (sR253_42 H1) ?_
    refine je_iload2 (pc := 32) d12064_32 rfl ?_
    refine ju_iald (pc := 33) (jn := (12 * f + k)) d12064_33 (sK285 H1) (vp_in_nI (by omega) (by decide)) (nI_clamp (by omega)) ?_
    refine ju_eqi (v := nI (r.2.2.2.1 k)) et ?_
    refine je_aload0 (pc := 34) d12064_34 rfl ?_
    refine ju_getr (pc := 35) (b := 286) d12064_35 jF_12_111 rfl (sK253 H1) (sR253_43 H1) ?_
    refine je_iload2 (pc := 38) d12064_38 rfl ?_
    refine ju_iald (pc := 39) (jn := (12 * f + k)) d12064_39 (sK286 H1) (vp_in_nI (by omega) (by decide)) (nI_clamp (by omega)) ?_
    refine ju_eqi (v := nI (r.2.2.2.2 k)) ee ?_
    refine je_iceq (pc := 40) 65 d12064_40 (by decide) (fun c40 => ?_) (fun c40 => ?_)
    · rw [if_pos (Or.inl ((nI_eq (by omega) (by omega)).mp c40))] at e3
      rw [← e3]
      exact mo_sum H hf h8 mr wf e1 e2 hk
    · have nt : ¬ r.2.2.2.1 k = r.2.2.2.2 k := fun z => c40 (by rw [z])
      obtain w7 := w6.resolve_left nt
      refine je_aload0 (pc := 43) d12064_43 rfl ?_
      refine je_iload1 (pc := 44) d12064_44 rfl ?_
      refine je_aload0 (pc := 45) d12064_45 rfl ?_
      refine ju_getr (pc := 46) (b := 285) d12064_46 jF_12_108 rfl (sK253 H1) (sR253_42 H1) ?_
      refine je_iload2 (pc := 49) d12064_49 rfl ?_
      refine ju_iald (pc := 50) (jn := (12 * f + k)) d12064_50 (sK285 H1) (vp_in_nI (by omega) (by decide)) (nI_clamp (by omega)) ?_
      refine ju_eqi (v := nI (r.2.2.2.1 k)) et ?_
      refine je_aload0 (pc := 51) d12064_51 rfl ?_
      refine ju_getr (pc := 52) (b := 286) d12064_52 jF_12_111 rfl (sK253 H1) (sR253_43 H1) ?_
      refine je_iload2 (pc := 55) d12064_55 rfl ?_
      refine ju_iald (pc := 56) (jn := (12 * f + k)) d12064_56 (sK286 H1) (vp_in_nI (by omega) (by decide)) (nI_clamp (by omega)) ?_
      refine ju_eqi (v := nI (r.2.2.2.1 k + (r.2.2.2.2 k - r.2.2.2.1 k))) ee2 ?_
      refine ju_callv (pc := 57) (as := [_, _, _]) d12064_57 jL_12_382 jM_Mo_answer rfl (by decide) (sK253 H1) rfl (by exact Nat.le_of_ble_eq_true rfl) (t_Mo_answer d (f := f) (a := r.2.2.2.1 k) (n := r.2.2.2.2 k - r.2.2.2.1 k) (m := r.1.2) (c := r.2.1) H1 hf (fun j hj => by rw [e1.2 _ (fun z => z), e1.2 _ (fun z => z)]; exact mr.2.1 j hj) wf.2.1 (by omega) wf.2.2.1 w7) (fun r57 h57 q57 => ?_)
      obtain ⟨rfl, f1, f2⟩ := q57
      have H2 := f1.St H1
      have g1 := e1.tr f1
      have g2 : ∀ b, b ≠ 289 → h57.2.2.1 b = h.2.2.1 b := fun b hb => (f2 b hb).trans (e2 b hb)
      rw [e2 288 (by decide)]
      refine je_lconst1 (pc := 60) d12064_60 ?_
      refine je_lcmp (pc := 61) d12064_61 ?_
      refine je_ifne (pc := 62) 83 d12064_62 (by decide) (fun c62 => ?_) (fun c62 => ?_)
      · refine ju_inc (pc := 83) (y := 1) (lv' := [some _, some _, some _]) d12064_83 rfl rfl rfl ?_
        refine je_goto (pc := 86) 13 d12064_86 (by decide) ?_
        rw [nI_1 (12 * f + k)]
        rw [if_neg (fun z => z.elim nt (fun y => y ((ev_tr w7).resolve_right (fun q => c62 ((lg_cmp_eq _ _).mpr q)))))] at e3
        exact kk () _ ⟨g1, g2, e3⟩
      · rw [if_pos (Or.inr (fun z => absurd (z.symm.trans ((lg_cmp_eq _ _).mp c62)) (by decide)))] at e3
        rw [← e3]
        exact mo_sum H hf h8 mr wf g1 g2 hk
  · obtain ⟨e1, e2, e3⟩ := e
    have w0 := wf.1
    have H1 := e1.St H
    have w5 := wf.2.1
    have ec : h'.2.1 283 f = nI r.1.1 := by rw [e1.2 _ (fun z => z)]; exact mr.1
    refine je_iload2 (pc := 13) d12064_13 rfl ?_
    refine je_bipush (pc := 14) (v := 12) d12064_14 rfl ?_
    refine je_iload1 (pc := 16) d12064_16 rfl ?_
    refine je_imul (pc := 17) d12064_17 ?_
    refine ju_eqi (v := nI (12 * f)) (pk_mul 12 f) ?_
    refine je_aload0 (pc := 18) d12064_18 rfl ?_
    refine ju_getr (pc := 19) (b := 283) d12064_19 jF_12_102 rfl (sK253 H1) (sR253_40 H1) ?_
    refine je_iload1 (pc := 22) d12064_22 rfl ?_
    refine ju_iald (pc := 23) (jn := (f)) d12064_23 (sK283 H1) (vp_in_nI (by omega) (by decide)) (nI_clamp (by omega)) ?_
    refine ju_eqi (v := nI r.1.1) ec ?_
    refine je_iadd (pc := 24) d12064_24 ?_
    refine ju_eqi (v := nI (12 * f + r.1.1)) (nI_add _ _) ?_
    refine ju_icge (pc := 25) 89 d12064_25 (by decide) (fun c25 => ?_) (fun c25 => absurd c25 (nI_nlt (Nat.le_refl _) (by omega)))
    refine je_lconst0 (pc := 89) d12064_89 ?_
    refine je_lret (pc := 90) d12064_90 rfl ?_
    rw [Nat.sub_self, crL] at e3
    rw [← e3]
    exact ⟨rfl, e1, e2⟩
/-- the model's holding -/
def mheld (v : Int64) (x : Int32) : Int32 := if v < (0 - x).toInt64 then 0 - x else if x.toInt64 < v then x else v.toInt32

set_option maxHeartbeats 2000000 in
theorem t_Mo_held (d : Nat) {bc bs : Nat} {h : jx_H} (v : Int64) (x : Int32) : jx_Tr (d + 1) bc bs 12061 [.long v, .int x] h (fun r h' => r = some (.int (mheld v x)) ∧ h' = h) := by
  refine jx_tr jM_Mo_held rfl rfl (lv := [some (.long v), none, some (.int x)]) rfl ?_
  refine je_lload0 (pc := 0) d12061_0 rfl ?_
  refine je_iload2 (pc := 1) d12061_1 rfl ?_
  refine je_ineg (pc := 2) d12061_2 ?_
  refine je_i2l (pc := 3) d12061_3 ?_
  refine je_lcmp (pc := 4) d12061_4 ?_
  refine ju_ifge (pc := 5) 13 d12061_5 (by decide) (fun c5 => ?_) (fun c5 => ?_)
  · refine je_lload0 (pc := 13) d12061_13 rfl ?_
    refine je_iload2 (pc := 14) d12061_14 rfl ?_
    refine je_i2l (pc := 15) d12061_15 ?_
    refine je_lcmp (pc := 16) d12061_16 ?_
    refine ju_ifle (pc := 17) 24 d12061_17 (by decide) (fun c17 => ?_) (fun c17 => ?_)
    · refine je_lload0 (pc := 24) d12061_24 rfl ?_
      refine je_l2i (pc := 25) d12061_25 ?_
      refine je_iret (pc := 26) d12061_26 rfl ?_
      exact ⟨by unfold mheld; rw [if_neg (fun z => c5 ((lg_cmp_lt _ _).mpr z)), if_neg (fun z => c17 ((lg_cmp_gt _ _).mpr z))], rfl⟩
    · refine je_iload2 (pc := 20) d12061_20 rfl ?_
      refine je_goto (pc := 21) 26 d12061_21 (by decide) ?_
      refine je_iret (pc := 26) d12061_26 rfl ?_
      exact ⟨by unfold mheld; rw [if_neg (fun z => c5 ((lg_cmp_lt _ _).mpr z)), if_pos ((lg_cmp_gt _ _).mp c17)], rfl⟩
  · refine je_iload2 (pc := 8) d12061_8 rfl ?_
    refine je_ineg (pc := 9) d12061_9 ?_
    refine je_goto (pc := 10) 26 d12061_10 (by decide) ?_
    refine je_iret (pc := 26) d12061_26 rfl ?_
    exact ⟨by unfold mheld; rw [if_pos ((lg_cmp_lt _ _).mp c5)], rfl⟩
theorem mheld_3 (v : Int64) : mheld v 3 = hold3 v := by
  unfold mheld hold3
  rw [show ((0 : Int32) - 3).toInt64 = (-3 : Int64) from by decide, show (3 : Int32).toInt64 = (3 : Int64) from by decide]
  by_cases c1 : v < -3
  · have c2 : v < 3 := by rw [fa_lt64] at c1 ⊢; rw [show (-3 : Int64).toInt = -3 from by decide] at c1; rw [show (3 : Int64).toInt = 3 from by decide]; omega
    rw [if_pos c1, if_pos c2, if_pos c1]; decide
  · rw [if_neg c1]
    by_cases c2 : v < 3
    · rw [if_pos c2, if_neg c1, if_neg]
      rw [fa_lt64] at c2 ⊢; omega
    · rw [if_neg c2, if_neg (by decide : ¬ ((3 : Int64) < -3))]
      by_cases c3 : 3 < v
      · rw [if_pos c3]; decide
      · rw [if_neg c3]
        have : v = 3 := by rw [fa_lt64] at c2 c3; rw [fa_eq64]; omega
        rw [this]
theorem mheld_w (x y : Int32) : mheld x.toInt64 y = mhold x (0 - y) y := by
  unfold mheld mhold
  simp only [fa_wide_lt]
  rw [show x.toInt64.toInt32 = x from by simp]
/-- how many bits of sixteen -/
def pop : Nat → Nat → Nat
  | 0, _ => 0
  | n + 1, b => pop n b + (if b.testBit n then 1 else 0)
def bcF (x : Int32) : Int32 :=
  let a := x - ((x.toUInt32 >>> ((1 : Int32).toUInt32 &&& 31)).toInt32 &&& 1431655765)
  let b := (a &&& 858993459) + ((a.toUInt32 >>> ((2 : Int32).toUInt32 &&& 31)).toInt32 &&& 858993459)
  let c := (b + (b.toUInt32 >>> ((4 : Int32).toUInt32 &&& 31)).toInt32) &&& 252645135
  let e := c + (c.toUInt32 >>> ((8 : Int32).toUInt32 &&& 31)).toInt32
  (e + (e.toUInt32 >>> ((16 : Int32).toUInt32 &&& 31)).toInt32) &&& 63
set_option maxRecDepth 100000 in
theorem bcF_ok : ∀ b, b < 1024 → bcF (nI b) = nI (pop 10 b) := by decide +kernel
set_option maxHeartbeats 2000000 in
theorem t_Int_bitCount (d : Nat) {bc bs : Nat} {h : jx_H} (x : Int32) : jx_Tr (d + 1) bc bs 14000 [.int x] h (fun r h' => r = some (.int (bcF x)) ∧ h' = h) := by
  refine jx_tr jM_Int_bitCount rfl rfl (lv := [some (.int x)]) rfl ?_
  refine je_iload0 (pc := 0) d14000_0 rfl ?_
  refine je_iload0 (pc := 1) d14000_1 rfl ?_
  refine je_iconst (pc := 2) (v := 1) d14000_2 rfl ?_
  refine je_iushr (pc := 3) d14000_3 rfl ?_
  refine je_ldcw (pc := 4) d14000_4 jK_14_265 ?_
  refine je_iand (pc := 7) d14000_7 ?_
  refine je_isub (pc := 8) d14000_8 ?_
  refine ju_istore0 (pc := 9) (lv' := [some _]) d14000_9 rfl rfl ?_
  refine je_iload0 (pc := 10) d14000_10 rfl ?_
  refine je_ldcw (pc := 11) d14000_11 jK_14_266 ?_
  refine je_iand (pc := 14) d14000_14 ?_
  refine je_iload0 (pc := 15) d14000_15 rfl ?_
  refine je_iconst (pc := 16) (v := 2) d14000_16 rfl ?_
  refine je_iushr (pc := 17) d14000_17 rfl ?_
  refine je_ldcw (pc := 18) d14000_18 jK_14_266 ?_
  refine je_iand (pc := 21) d14000_21 ?_
  refine je_iadd (pc := 22) d14000_22 ?_
  refine ju_istore0 (pc := 23) (lv' := [some _]) d14000_23 rfl rfl ?_
  refine je_iload0 (pc := 24) d14000_24 rfl ?_
  refine je_iload0 (pc := 25) d14000_25 rfl ?_
  refine je_iconst (pc := 26) (v := 4) d14000_26 rfl ?_
  refine je_iushr (pc := 27) d14000_27 rfl ?_
  refine je_iadd (pc := 28) d14000_28 ?_
  refine je_ldcw (pc := 29) d14000_29 jK_14_267 ?_
  refine je_iand (pc := 32) d14000_32 ?_
  refine ju_istore0 (pc := 33) (lv' := [some _]) d14000_33 rfl rfl ?_
  refine je_iload0 (pc := 34) d14000_34 rfl ?_
  refine je_iload0 (pc := 35) d14000_35 rfl ?_
  refine je_bipush (pc := 36) (v := 8) d14000_36 rfl ?_
  refine je_iushr (pc := 38) d14000_38 rfl ?_
  refine je_iadd (pc := 39) d14000_39 ?_
  refine ju_istore0 (pc := 40) (lv' := [some _]) d14000_40 rfl rfl ?_
  refine je_iload0 (pc := 41) d14000_41 rfl ?_
  refine je_iload0 (pc := 42) d14000_42 rfl ?_
  refine je_bipush (pc := 43) (v := 16) d14000_43 rfl ?_
  refine je_iushr (pc := 45) d14000_45 rfl ?_
  refine je_iadd (pc := 46) d14000_46 ?_
  refine ju_istore0 (pc := 47) (lv' := [some _]) d14000_47 rfl rfl ?_
  refine je_iload0 (pc := 48) d14000_48 rfl ?_
  refine je_bipush (pc := 49) (v := 63) d14000_49 rfl ?_
  refine je_iand (pc := 51) d14000_51 ?_
  refine je_iret (pc := 52) d14000_52 rfl ?_
  exact ⟨rfl, rfl⟩
