/-! a rule told: the model takes it -/
theorem go_sk {T : Nat → Int32} {N p b : Nat} (h1 : skB T N p = b) (h2 : skB T N b = b) : (goS T N (0, p)).1 = (goS T N (0, b)).1 ∧ (goS T N (0, p)).2.1 = (goS T N (0, b)).2.1 ∧ ((goS T N (0, p)).1 = true → (goS T N (0, p)).2 = (goS T N (0, b)).2) := by
  have e : ∀ q, skB T N q = b → goS T N (0, q) = if N ≤ b then (false, (0, q)) else if T b = 59 then (true, (0, b + 1)) else (false, (fltI b 0, q)) := fun q hq => by
    unfold goS
    dsimp only
    rw [if_neg (show ¬ ¬ (0 : Int32) = 0 from fun z => z rfl), hq]
  rw [e p h1, e b h2]
  by_cases c : N ≤ b
  · rw [if_pos c, if_pos c]; exact ⟨rfl, rfl, fun z => nomatch z⟩
  · rw [if_neg c, if_neg c]
    by_cases c2 : T b = 59
    · rw [if_pos c2, if_pos c2]; exact ⟨rfl, rfl, fun _ => rfl⟩
    · rw [if_neg c2, if_neg c2]; exact ⟨rfl, rfl, fun z => nomatch z⟩
def moR (sl : Nat) (h h' : jx_H) : Prop := fC (fun b => b = 253 ∨ b = 281 ∨ b = 282 ∨ b = 284 ∨ b = 285 ∨ b = 286 ∨ b = 287) h h' ∧ (∀ j, j ≠ 28 → j ≠ 29 → j ≠ 30 → j ≠ 32 → j ≠ 33 → j ≠ 34 → j ≠ 35 → h'.2.1 253 j = h.2.1 253 j) ∧ (∀ i, i < 300 * sl → h'.2.1 281 i = h.2.1 281 i ∧ h'.2.1 282 i = h.2.1 282 i) ∧ ∀ i, i < 12 * sl → h'.2.1 284 i = h.2.1 284 i ∧ h'.2.1 285 i = h.2.1 285 i ∧ h'.2.1 286 i = h.2.1 286 i
theorem moR.tr {sl : Nat} {h1 h2 h3 : jx_H} (x : moR sl h1 h2) (y : moR sl h2 h3) : moR sl h1 h3 := ⟨x.1.tr y.1, fun j a b c e f g i => (y.2.1 j a b c e f g i).trans (x.2.1 j a b c e f g i), fun i hi => ⟨((y.2.2.1 i hi).1).trans (x.2.2.1 i hi).1, ((y.2.2.1 i hi).2).trans (x.2.2.1 i hi).2⟩, fun i hi => ⟨((y.2.2.2 i hi).1).trans (x.2.2.2 i hi).1, ((y.2.2.2 i hi).2.1).trans (x.2.2.2 i hi).2.1, ((y.2.2.2 i hi).2.2).trans (x.2.2.2 i hi).2.2⟩⟩
theorem moC.R {sl n : Nat} {h h' : jx_H} (x : moC sl n h h') : moR sl h h' := ⟨x.1, fun j a b _ e f g i => x.2.1 j a b e f g i, x.2.2.1, fun i hi => x.2.2.2 i (by omega)⟩
theorem moR.w {sl j : Nat} {h : jx_H} {v : Int32} (hj : j = 28 ∨ j = 29 ∨ j = 30 ∨ j = 32 ∨ j = 33 ∨ j = 34 ∨ j = 35) : moR sl h (jx_wI h 253 j v) := ⟨fC.rf.wI (Or.inl rfl), fun i a b c e f g k => by rw [wI_at, jx_up_ne _ _ (by omega)], fun i _ => by rw [wI_ne _ _ _ (by decide), wI_ne _ _ _ (by decide)]; exact ⟨rfl, rfl⟩, fun i _ => by rw [wI_ne _ _ _ (by decide), wI_ne _ _ _ (by decide), wI_ne _ _ _ (by decide)]; exact ⟨rfl, rfl, rfl⟩⟩
theorem moR.g {sl : Nat} {h h' : jx_H} (f : fC (fun b => b = 253) h h') (e : ∀ j, j ≠ 28 → j ≠ 29 → h'.2.1 253 j = h.2.1 253 j) : moR sl h h' := ⟨f.mo (fun b z => Or.inl z), fun j a b _ _ _ _ _ => e j a b, fun i _ => by rw [f.2 281 (by decide), f.2 282 (by decide)]; exact ⟨rfl, rfl⟩, fun i _ => by rw [f.2 284 (by decide), f.2 285 (by decide), f.2 286 (by decide)]; exact ⟨rfl, rfl, rfl⟩⟩
/-- what the model has of a rule so far -/
def rgS (h : jx_H) (N sl : Nat) (U : Nat → Int32) (x : RC) : Prop := jx_St h ∧ h.2.1 253 30 = nI sl ∧ h.2.1 253 29 = x.2.1.1 ∧ (x.2.1.1 = 0 → (∀ j, j < x.2.1.2.2.2.length → okS (h.2.1 281 (300 * sl + j)) (h.2.1 282 (300 * sl + j)) ∧ encR (h.2.1 281 (300 * sl + j)) (h.2.1 282 (300 * sl + j)) = x.2.1.2.2.2.getD j 0) ∧ ∀ c, c < x.2.2.1 → h.2.1 284 (12 * sl + c) = nI (x.2.2.2.1 c) ∧ h.2.1 285 (12 * sl + c) = nI (x.2.2.2.2.1 c) ∧ h.2.1 286 (12 * sl + c) = nI (x.2.2.2.2.2 c)) ∧ (x.1 = true → mrI h N sl U x.2.1 ∧ h.2.1 253 33 = 0)
def moX (sl : Nat) (h h' : jx_H) : Prop := fC (fun b => b = 253 ∨ 281 ≤ b ∧ b ≤ 287) h h' ∧ (∀ j, j < 27 ∨ 36 ≤ j → h'.2.1 253 j = h.2.1 253 j) ∧ (∀ i, i < 300 * sl → h'.2.1 281 i = h.2.1 281 i ∧ h'.2.1 282 i = h.2.1 282 i) ∧ (∀ i, i ≠ sl → h'.2.1 283 i = h.2.1 283 i) ∧ ∀ i, i < 12 * sl → h'.2.1 284 i = h.2.1 284 i ∧ h'.2.1 285 i = h.2.1 285 i ∧ h'.2.1 286 i = h.2.1 286 i
theorem moR.X {sl cn : Nat} {v : Int32} {h h' : jx_H} (x : moR sl h h') : moX sl h (jx_wI (jx_wI (jx_wI h' 253 27 0) 283 sl (nI cn)) 253 31 v) := by
  refine ⟨(((x.1.mo (B := fun b => b = 253 ∨ 281 ≤ b ∧ b ≤ 287) (fun b z => by omega)).wI (Or.inl rfl)).wI (Or.inr (by decide))).wI (Or.inl rfl), fun j hj => ?_, fun i hi => ?_, fun i hi => ?_, fun i hi => ?_⟩
  · rw [wI_at, jx_up_ne _ _ (by omega), wI_ne _ _ _ (by decide), wI_at, jx_up_ne _ _ (by omega)]
    exact x.2.1 j (by omega) (by omega) (by omega) (by omega) (by omega) (by omega) (by omega)
  · rw [wI_ne _ _ _ (by decide), wI_ne _ _ _ (by decide), wI_ne _ _ _ (by decide), wI_ne _ _ _ (by decide), wI_ne _ _ _ (by decide), wI_ne _ _ _ (by decide)]
    exact x.2.2.1 i hi
  · rw [wI_ne _ _ _ (by decide), wI_at, jx_up_ne _ _ hi, wI_ne _ _ _ (by decide), x.1.2 283 (by decide)]
  · rw [wI_ne _ _ _ (by decide), wI_ne _ _ _ (by decide), wI_ne _ _ _ (by decide), wI_ne _ _ _ (by decide), wI_ne _ _ _ (by decide), wI_ne _ _ _ (by decide), wI_ne _ _ _ (by decide), wI_ne _ _ _ (by decide), wI_ne _ _ _ (by decide)]
    exact x.2.2.2 i hi
set_option maxHeartbeats 8000000 in
theorem t_Mo_rule (d : Nat) {bc bs : Nat} {h : jx_H} {N sl : Nat} {U : Nat → Int32} (H : jx_St h) (ht : h.2.1 253 27 = nI N) (hN : N ≤ 400) (eU : mT h = U) (hB : ∀ j, j < N → (h.2.1 280 j).toInt8.toInt32 = h.2.1 280 j) (hU : bytT U N) (hr : h.2.1 253 31 = nI sl) (hsl : sl < 6) (hw : h.2.1 253 36 = 12) : jx_Tr (d + 13) bc bs 12025 [.ref 253] h (fun r h' => moX sl h h' ∧ h'.2.1 253 27 = 0 ∧ ((itR U N 13).2.1.1 = 0 → r = some (.int (nI sl)) ∧ h'.2.1 253 31 = nI (sl + 1) ∧ mRu h'.2.1 sl (rulR (itR U N 13))) ∧ (¬ (itR U N 13).2.1.1 = 0 → r = some (.int (-2 - (itR U N 13).2.1.1)) ∧ h'.2.1 253 31 = nI sl)) := by
  refine jx_tr jM_Mo_rule rfl rfl (lv := [some (.ref 253), none, none]) rfl ?_
  have fpX := (itR_g (T := U) hN 13 (by decide)).1.2.1
  have stX : ∀ k, k ≤ 13 → ¬ (itR U N k).1 = true → itR U N k = itR U N 13 := fun k hk h => (itR_e hk h).symm
  generalize itR U N 13 = X at fpX stX ⊢
  have KX : ∀ h', moR sl h h' → rgS h' N sl U X → jx_Ev (d + 13) bc bs 12025 47 [some (.ref 253), some (.int (nI X.2.2.1)), some (.int (b2 (X.1 = true)))] [] h' (fun r h' => moX sl h h' ∧ h'.2.1 253 27 = 0 ∧ (X.2.1.1 = 0 → r = some (.int (nI sl)) ∧ h'.2.1 253 31 = nI (sl + 1) ∧ mRu h'.2.1 sl (rulR X)) ∧ (¬ X.2.1.1 = 0 → r = some (.int (-2 - X.2.1.1)) ∧ h'.2.1 253 31 = nI sl)) := by
    intro h' G0 G1
    obtain ⟨g1, g2, g3, g4, -⟩ := G1
    have r31 : h'.2.1 253 31 = nI sl := (G0.2.1 31 (by decide) (by decide) (by decide) (by decide) (by decide) (by decide) (by decide)).trans hr
    by_cases c : X.2.1.1 = 0
    · skip
      refine je_aload0 (pc := 47) d12025_47 rfl ?_
      refine je_iconst (pc := 48) (v := 0) d12025_48 rfl ?_
      refine ju_puti (pc := 49) d12025_49 jF_12_185 rfl (sK253 g1) ?_
      refine je_aload0 (pc := 52) d12025_52 rfl ?_
      refine ju_getr (pc := 53) (b := 283) d12025_53 jF_12_102 rfl (sK253 g1.wI) (sR253_40 g1.wI) ?_
      refine je_aload0 (pc := 56) d12025_56 rfl ?_
      refine ju_geti (pc := 57) d12025_57 jF_12_244 rfl (sK253 g1.wI) ?_
      refine ju_eqi (v := nI sl) (by rw [wI_at, jx_up_ne _ _ (by decide)]; exact g2) ?_
      refine je_iload1 (pc := 60) d12025_60 rfl ?_
      refine ju_iast (pc := 61) (jn := (sl)) d12025_61 (sK283 g1.wI) (vp_in_nI (by omega) (by decide)) (nI_clamp (by omega)) ?_
      refine je_aload0 (pc := 62) d12025_62 rfl ?_
      refine je_dup (pc := 63) d12025_63 rfl ?_
      refine ju_geti (pc := 64) d12025_64 jF_12_374 rfl (sK253 g1.wI.wI) ?_
      refine ju_eqi (v := nI sl) (by rw [wI_ne _ _ _ (by decide), wI_at, jx_up_ne _ _ (by decide)]; exact r31) ?_
      refine je_aload0 (pc := 67) d12025_67 rfl ?_
      refine ju_geti (pc := 68) d12025_68 jF_12_214 rfl (sK253 g1.wI.wI) ?_
      refine ju_eqi (v := X.2.1.1) (by rw [wI_ne _ _ _ (by decide), wI_at, jx_up_ne _ _ (by decide)]; exact g3) ?_
      refine je_ifne (pc := 71) 78 d12025_71 (by decide) (fun c71 => absurd c71 (fun z => z c)) (fun c71 => ?_)
      refine je_iconst (pc := 74) (v := 1) d12025_74 rfl ?_
      refine je_goto (pc := 75) 79 d12025_75 (by decide) ?_
      refine je_iadd (pc := 79) d12025_79 ?_
      refine ju_eqi (v := nI ((sl) + 1)) (nI_add (sl) 1) ?_
      refine ju_puti (pc := 80) d12025_80 jF_12_374 rfl (sK253 g1.wI.wI) ?_
      refine je_aload0 (pc := 83) d12025_83 rfl ?_
      refine ju_geti (pc := 84) d12025_84 jF_12_214 rfl (sK253 g1.wI.wI.wI) ?_
      refine ju_eqi (v := X.2.1.1) (by rw [wI_at, jx_up_ne _ _ (by decide), wI_ne _ _ _ (by decide), wI_at, jx_up_ne _ _ (by decide)]; exact g3) ?_
      refine ju_ifle (pc := 87) 100 d12025_87 (by decide) (fun c87 => ?_) (fun c87 => absurd c87 (fun z => by rw [c] at z; exact absurd z (by decide)))
      refine je_aload0 (pc := 100) d12025_100 rfl ?_
      refine ju_geti (pc := 101) d12025_101 jF_12_374 rfl (sK253 g1.wI.wI.wI) ?_
      refine ju_eqi (v := nI (sl + 1)) (by rw [wI_at, jx_up_self]) ?_
      refine je_iconst (pc := 104) (v := 1) d12025_104 rfl ?_
      refine je_isub (pc := 105) d12025_105 ?_
      refine ju_eqi (v := nI (((sl + 1)) - 1)) (pk_sub (a := ((sl + 1))) (b := 1) (by omega)) ?_
      refine je_iret (pc := 106) d12025_106 rfl ?_
      refine ⟨G0.X, ?_, fun z => ?_, fun z => absurd c z⟩
      · rw [wI_at, jx_up_ne _ _ (by decide), wI_ne _ _ _ (by decide), wI_at, jx_up_self]
      · obtain ⟨k1, k2⟩ := g4 c
        refine ⟨rfl, by rw [wI_at, jx_up_self], ?_, fun j hj => ?_, fun q hq => ?_⟩
        · rw [wI_ne _ _ _ (by decide), wI_at, jx_up_self]; rfl
        · rw [wI_ne _ _ _ (by decide), wI_ne _ _ _ (by decide), wI_ne _ _ _ (by decide), wI_ne _ _ _ (by decide), wI_ne _ _ _ (by decide), wI_ne _ _ _ (by decide)]; exact k1 j hj
        · rw [wI_ne _ _ _ (by decide), wI_ne _ _ _ (by decide), wI_ne _ _ _ (by decide), wI_ne _ _ _ (by decide), wI_ne _ _ _ (by decide), wI_ne _ _ _ (by decide), wI_ne _ _ _ (by decide), wI_ne _ _ _ (by decide), wI_ne _ _ _ (by decide)]; exact k2 q hq
    · skip
      refine je_aload0 (pc := 47) d12025_47 rfl ?_
      refine je_iconst (pc := 48) (v := 0) d12025_48 rfl ?_
      refine ju_puti (pc := 49) d12025_49 jF_12_185 rfl (sK253 g1) ?_
      refine je_aload0 (pc := 52) d12025_52 rfl ?_
      refine ju_getr (pc := 53) (b := 283) d12025_53 jF_12_102 rfl (sK253 g1.wI) (sR253_40 g1.wI) ?_
      refine je_aload0 (pc := 56) d12025_56 rfl ?_
      refine ju_geti (pc := 57) d12025_57 jF_12_244 rfl (sK253 g1.wI) ?_
      refine ju_eqi (v := nI sl) (by rw [wI_at, jx_up_ne _ _ (by decide)]; exact g2) ?_
      refine je_iload1 (pc := 60) d12025_60 rfl ?_
      refine ju_iast (pc := 61) (jn := (sl)) d12025_61 (sK283 g1.wI) (vp_in_nI (by omega) (by decide)) (nI_clamp (by omega)) ?_
      refine je_aload0 (pc := 62) d12025_62 rfl ?_
      refine je_dup (pc := 63) d12025_63 rfl ?_
      refine ju_geti (pc := 64) d12025_64 jF_12_374 rfl (sK253 g1.wI.wI) ?_
      refine ju_eqi (v := nI sl) (by rw [wI_ne _ _ _ (by decide), wI_at, jx_up_ne _ _ (by decide)]; exact r31) ?_
      refine je_aload0 (pc := 67) d12025_67 rfl ?_
      refine ju_geti (pc := 68) d12025_68 jF_12_214 rfl (sK253 g1.wI.wI) ?_
      refine ju_eqi (v := X.2.1.1) (by rw [wI_ne _ _ _ (by decide), wI_at, jx_up_ne _ _ (by decide)]; exact g3) ?_
      refine je_ifne (pc := 71) 78 d12025_71 (by decide) (fun c71 => ?_) (fun c71 => absurd c71 c)
      refine je_iconst (pc := 78) (v := 0) d12025_78 rfl ?_
      refine je_iadd (pc := 79) d12025_79 ?_
      refine ju_eqi (v := nI ((sl) + 0)) (nI_add (sl) 0) ?_
      refine ju_puti (pc := 80) d12025_80 jF_12_374 rfl (sK253 g1.wI.wI) ?_
      refine je_aload0 (pc := 83) d12025_83 rfl ?_
      refine ju_geti (pc := 84) d12025_84 jF_12_214 rfl (sK253 g1.wI.wI.wI) ?_
      refine ju_eqi (v := X.2.1.1) (by rw [wI_at, jx_up_ne _ _ (by decide), wI_ne _ _ _ (by decide), wI_at, jx_up_ne _ _ (by decide)]; exact g3) ?_
      refine ju_ifle (pc := 87) 100 d12025_87 (by decide) (fun c87 => absurd c87 (fun z => z (fpX.resolve_left c))) (fun c87 => ?_)
      refine je_bipush (pc := 90) (v := -2) d12025_90 rfl ?_
      refine je_aload0 (pc := 92) d12025_92 rfl ?_
      refine ju_geti (pc := 93) d12025_93 jF_12_214 rfl (sK253 g1.wI.wI.wI) ?_
      refine ju_eqi (v := X.2.1.1) (by rw [wI_at, jx_up_ne _ _ (by decide), wI_ne _ _ _ (by decide), wI_at, jx_up_ne _ _ (by decide)]; exact g3) ?_
      refine je_isub (pc := 96) d12025_96 ?_
      refine je_goto (pc := 97) 106 d12025_97 (by decide) ?_
      refine je_iret (pc := 106) d12025_106 rfl ?_
      refine ⟨G0.X, ?_, fun z => absurd z c, fun z => ?_⟩
      · rw [wI_at, jx_up_ne _ _ (by decide), wI_ne _ _ _ (by decide), wI_at, jx_up_self]
      · exact ⟨rfl, by rw [wI_at, jx_up_self]; rfl⟩
  refine je_aload0 (pc := 0) d12025_0 rfl ?_
  refine ju_geti (pc := 1) d12025_1 jF_12_374 rfl (sK253 H) ?_
  refine ju_eqi (v := nI sl) hr ?_
  refine je_bipush (pc := 4) (v := 6) d12025_4 rfl ?_
  refine jn_icne (pc := 6) (a := (sl)) (b := 6) 11 d12025_6 (by decide) (by omega) (by omega) (fun c6 => ?_) (fun c6 => by exfalso; omega)
  refine je_aload0 (pc := 11) d12025_11 rfl ?_
  refine je_aload0 (pc := 12) d12025_12 rfl ?_
  refine ju_geti (pc := 13) d12025_13 jF_12_374 rfl (sK253 H) ?_
  refine ju_eqi (v := nI sl) hr ?_
  refine ju_puti (pc := 16) d12025_16 jF_12_244 rfl (sK253 H) ?_
  refine je_aload0 (pc := 19) d12025_19 rfl ?_
  refine ju_callv (pc := 20) (as := []) d12025_20 jL_12_345 jM_Mo_starts rfl (by decide) (sK253 H.wI) rfl (by exact Nat.le_of_ble_eq_true rfl) (t_Mo_starts (d + 11) H.wI) (fun r20 h20 q20 => ?_)
  obtain ⟨rfl, e20⟩ := q20
  obtain rfl := e20.symm
  refine je_iconst (pc := 23) (v := 0) d12025_23 rfl ?_
  refine ju_istore1 (pc := 24) (lv' := [some _, some _, none]) d12025_24 rfl rfl ?_
  refine je_iconst (pc := 25) (v := 1) d12025_25 rfl ?_
  refine ju_istore2 (pc := 26) (lv' := [some _, some _, some _]) d12025_26 rfl rfl ?_
  have e253 : ∀ j, j ≠ 28 → j ≠ 29 → j ≠ 30 → j ≠ 32 → j ≠ 33 → j ≠ 34 → (jx_wI (jx_wI (jx_wI (jx_wI (jx_wI (jx_wI h 253 30 (nI sl)) 253 28 0) 253 29 0) 253 32 0) 253 33 0) 253 34 0).2.1 253 j = h.2.1 253 j := fun j a b c e f g => by rw [wI_at, jx_up_ne _ _ g, wI_at, jx_up_ne _ _ f, wI_at, jx_up_ne _ _ e, wI_at, jx_up_ne _ _ b, wI_at, jx_up_ne _ _ a, wI_at, jx_up_ne _ _ c]
  have q0 : moR sl h (jx_wI (jx_wI (jx_wI (jx_wI (jx_wI (jx_wI h 253 30 (nI sl)) 253 28 0) 253 29 0) 253 32 0) 253 33 0) 253 34 0) := (((((moR.w (by decide)).tr (moR.w (by decide))).tr (moR.w (by decide))).tr (moR.w (by decide))).tr (moR.w (by decide))).tr (moR.w (by decide))
  have v30 : (jx_wI (jx_wI (jx_wI (jx_wI (jx_wI (jx_wI h 253 30 (nI sl)) 253 28 0) 253 29 0) 253 32 0) 253 33 0) 253 34 0).2.1 253 30 = nI sl := by rw [wI_at, jx_up_ne _ _ (by decide), wI_at, jx_up_ne _ _ (by decide), wI_at, jx_up_ne _ _ (by decide), wI_at, jx_up_ne _ _ (by decide), wI_at, jx_up_ne _ _ (by decide), wI_at, jx_up_self]
  have v28 : (jx_wI (jx_wI (jx_wI (jx_wI (jx_wI (jx_wI h 253 30 (nI sl)) 253 28 0) 253 29 0) 253 32 0) 253 33 0) 253 34 0).2.1 253 28 = nI 0 := by rw [wI_at, jx_up_ne _ _ (by decide), wI_at, jx_up_ne _ _ (by decide), wI_at, jx_up_ne _ _ (by decide), wI_at, jx_up_ne _ _ (by decide), wI_at, jx_up_self]; rfl
  have v29 : (jx_wI (jx_wI (jx_wI (jx_wI (jx_wI (jx_wI h 253 30 (nI sl)) 253 28 0) 253 29 0) 253 32 0) 253 33 0) 253 34 0).2.1 253 29 = 0 := by rw [wI_at, jx_up_ne _ _ (by decide), wI_at, jx_up_ne _ _ (by decide), wI_at, jx_up_ne _ _ (by decide), wI_at, jx_up_self]
  have v32 : (jx_wI (jx_wI (jx_wI (jx_wI (jx_wI (jx_wI h 253 30 (nI sl)) 253 28 0) 253 29 0) 253 32 0) 253 33 0) 253 34 0).2.1 253 32 = nI 0 := by rw [wI_at, jx_up_ne _ _ (by decide), wI_at, jx_up_ne _ _ (by decide), wI_at, jx_up_self]; rfl
  have v33 : (jx_wI (jx_wI (jx_wI (jx_wI (jx_wI (jx_wI h 253 30 (nI sl)) 253 28 0) 253 29 0) 253 32 0) 253 33 0) 253 34 0).2.1 253 33 = 0 := by rw [wI_at, jx_up_ne _ _ (by decide), wI_at, jx_up_self]
  have v34 : (jx_wI (jx_wI (jx_wI (jx_wI (jx_wI (jx_wI h 253 30 (nI sl)) 253 28 0) 253 29 0) 253 32 0) 253 33 0) 253 34 0).2.1 253 34 = nI 0 := by rw [wI_at, jx_up_self]; rfl
  have HS0 : jx_St (jx_wI (jx_wI (jx_wI (jx_wI (jx_wI (jx_wI h 253 30 (nI sl)) 253 28 0) 253 29 0) 253 32 0) 253 33 0) 253 34 0) := H.wI.wI.wI.wI.wI.wI
  have e280 : (jx_wI (jx_wI (jx_wI (jx_wI (jx_wI (jx_wI h 253 30 (nI sl)) 253 28 0) 253 29 0) 253 32 0) 253 33 0) 253 34 0).2.1 280 = h.2.1 280 := q0.1.2 280 (by decide)
  have v36 : (jx_wI (jx_wI (jx_wI (jx_wI (jx_wI (jx_wI h 253 30 (nI sl)) 253 28 0) 253 29 0) 253 32 0) 253 33 0) 253 34 0).2.1 253 36 = 12 := (e253 36 (by decide) (by decide) (by decide) (by decide) (by decide) (by decide)).trans hw
  have v27 : (jx_wI (jx_wI (jx_wI (jx_wI (jx_wI (jx_wI h 253 30 (nI sl)) 253 28 0) 253 29 0) 253 32 0) 253 33 0) 253 34 0).2.1 253 27 = nI N := (e253 27 (by decide) (by decide) (by decide) (by decide) (by decide) (by decide)).trans ht
  have vT : mT (jx_wI (jx_wI (jx_wI (jx_wI (jx_wI (jx_wI h 253 30 (nI sl)) 253 28 0) 253 29 0) 253 32 0) 253 33 0) 253 34 0) = U := by rw [← eU]; funext j; unfold mT; rw [e280]
  generalize (jx_wI (jx_wI (jx_wI (jx_wI (jx_wI (jx_wI h 253 30 (nI sl)) 253 28 0) 253 29 0) 253 32 0) 253 33 0) 253 34 0) = hs at e253 q0 v30 v28 v29 v32 v33 v34 HS0 e280 v36 v27 vT ⊢
  have q1 : rgS hs N sl U (itR U N 0) := ⟨HS0, v30, v29, fun _ => ⟨fun j hj => absurd hj (Nat.not_lt_zero j), fun c hc => absurd hc (Nat.not_lt_zero c)⟩, fun _ => ⟨⟨0, Nat.zero_le N, ⟨⟨HS0, vT, by rw [e280]; exact hB, v27, v30, v36⟩, v29, v28, fun _ => ⟨v34, v32, fun j hj => absurd hj (Nat.not_lt_zero j)⟩⟩, fun _ => rfl⟩, v33⟩⟩
  obtain ⟨K, hK⟩ : ∃ K, K = 13 := ⟨13, rfl⟩
  refine je_loop (σ := Unit) (K) (fun k xx => [some (.ref 253), some (.int (nI (itR U N k).2.2.1)), some (.int (b2 ((itR U N k).1 = true)))]) (fun k _ h' => moR sl h h' ∧ rgS h' N sl U (itR U N k)) (fun k xx h' hk e kk => ?_) (fun xx h' e => ?_) (0) () _ (by omega) ⟨q0, q1⟩
  · obtain ⟨j1, j2⟩ := e
    refine je_iload2 (pc := 27) d12025_27 rfl ?_
    refine jb_ifeq (pc := 28) 47 d12025_28 (by decide) (fun c28 => ?_) (fun c28 => ?_)
    · have ex := stX k (by omega) c28
      rw [ex] at j2 ⊢
      exact KX _ j1 j2
    · obtain ⟨i1, i2, -⟩ := itR_g (T := U) hN k (by omega)
      obtain ⟨i3, i4, i5⟩ := i2 c28
      have eI : itR U N (k + 1) = nxR U N k (itR U N k) := by rw [itR, if_pos c28]
      have J2 := c2_j (n := k) i1 hN
      obtain ⟨x0, x1, x2, x3, x4⟩ := j2
      obtain ⟨M1, M2⟩ := x4 c28
      rw [i4]
      generalize itR U N k = x at c28 i1 i2 i3 i4 eI J2 x1 x2 x3 x4 M1 M2 ⊢
      by_cases g : (c2R U N k x.2.1).1 = 0
      · skip
        refine je_aload0 (pc := 31) d12025_31 rfl ?_
        refine je_iload1 (pc := 32) d12025_32 rfl ?_
        refine ju_callv (pc := 33) (as := [_]) d12025_33 jL_12_377 jM_Mo_ruleClause rfl (by decide) (sK253 x0) rfl (by exact Nat.le_of_ble_eq_true rfl) (t_Mo_ruleClause (d + 0) (n := k) M1 i3 hN hsl i1.1 i1 hU M2 i5) (fun r33 h33 q33 => ?_)
        obtain ⟨rfl, q1, q2, q3⟩ := q33
        obtain ⟨p3, hp3, B3, e3⟩ := (q2 g).1
        have HS := B3.1.1
        have MS : mtS h33 N (0, p3) := ⟨B3.1.2.2.2.1, B3.2.1.trans g, p3, hp3, B3.2.2.1, fun _ => rfl⟩
        obtain ⟨go1, go2, go3⟩ := go_sk (T := U) (N := N) (p := p3) (b := (c2R U N k x.2.1).2.1) (e3 g) (J2.1.1 g).2.1
        refine ju_incN (pc := 36) (v := nI ((k) + 1)) (lv' := [some _, some _, some _]) d12025_36 rfl (nI_1 (k)) rfl ?_
        refine je_aload0 (pc := 39) d12025_39 rfl ?_
        refine ju_callv (pc := 40) (as := []) d12025_40 jL_12_351 jM_Mo_goesOn rfl (by decide) (sK253 (q1.1.St x0)) rfl (by exact Nat.le_of_ble_eq_true rfl) (t_Mo_goesOn (d + 9) (N := N) (s := (0, p3)) HS MS hN) (fun r40 h40 q40 => ?_)
        obtain ⟨rfl, z1, z2, z3, z4⟩ := q40
        rw [B3.1.2.1] at z3 z4 ⊢
        refine ju_eqi (v := b2 ((itR U N (k + 1)).1 = true)) (by rw [eI, go1]; show _ = b2 ((goS U N ((c2R U N k x.2.1).1, (c2R U N k x.2.1).2.1)).1 = true); rw [g]) ?_
        refine ju_istore2 (pc := 43) (lv' := [some _, some _, some _]) d12025_43 rfl rfl ?_
        refine je_goto (pc := 44) 27 d12025_44 (by decide) ?_
        have e1 : (itR U N (k + 1)).2.2.1 = k + 1 := by
          rw [eI]
          show x.2.2.1 + 1 = k + 1
          rw [i4]
        have t := kk () h40 ⟨((j1.tr q1.R).tr (moR.g z1 z2)), ?_⟩
        · rw [e1] at t
          exact t
        rw [eI]
        obtain ⟨m1, m2, m3, m4, m5⟩ := q2 g
        obtain ⟨y1, y2, y3, y4⟩ := gs_j J2 hN
        have r0 : ∀ b, b ≠ 253 → h40.2.1 b = h33.2.1 b := fun b hb => z1.2 b hb
        refine ⟨z1.St HS, (z2 30 (by decide) (by decide)).trans (B3.1.2.2.2.2.1), ?_, fun f2 => ?_, fun z => ?_⟩
        · show h40.2.1 253 29 = (goS U N ((c2R U N k x.2.1).1, (c2R U N k x.2.1).2.1)).2.1
          rw [z3, go2, g]
        · have e5 : (nxR U N k x).2.1.2.2.2 = (c2R U N k x.2.1).2.2.2 := congrArg Prod.snd y4
          rw [e5, r0 281 (by decide), r0 282 (by decide), r0 284 (by decide), r0 285 (by decide), r0 286 (by decide)]
          refine ⟨(B3.2.2.2 g).2.2, fun c hc => ?_⟩
          have hc : c < x.2.2.1 + 1 := hc
          show h33.2.1 284 (12 * sl + c) = nI (jx_up x.2.2.2.1 k _ c) ∧ h33.2.1 285 (12 * sl + c) = nI (jx_up x.2.2.2.2.1 k _ c) ∧ h33.2.1 286 (12 * sl + c) = nI (jx_up x.2.2.2.2.2 k _ c)
          by_cases w : c = k
          · rw [w, jx_up_self, jx_up_self, jx_up_self]; exact ⟨m3, m4, m5⟩
          · rw [jx_up_ne _ _ w, jx_up_ne _ _ w, jx_up_ne _ _ w, (q1.2.2.2 (12 * sl + c) (by omega)).1, (q1.2.2.2 (12 * sl + c) (by omega)).2.1, (q1.2.2.2 (12 * sl + c) (by omega)).2.2]
            exact (x3 i3).2 c (by omega)
        · have z0 : (goS U N ((c2R U N k x.2.1).1, (c2R U N k x.2.1).2.1)).1 = true := z
          rw [g, ← go1] at z0
          obtain ⟨a1, a2, p', a3, a4, a5⟩ := z4 z0
          have fz : (goS U N (0, p3)).2.1 = 0 := (go_N (T := U) (N := N) (s := (0, p3)) hp3 hN).2.1 z0 |>.2
          refine ⟨⟨p', a3, ⟨⟨z1.St HS, (mT_e z1.mn).trans B3.1.2.1, fun j hj => by rw [r0 280 (by decide)]; exact B3.1.2.2.1 j hj, (z2 27 (by decide) (by decide)).trans B3.1.2.2.2.1, (z2 30 (by decide) (by decide)).trans B3.1.2.2.2.2.1, (z2 36 (by decide) (by decide)).trans B3.1.2.2.2.2.2⟩, ?_, a4, fun f2 => ?_⟩, fun _ => ?_⟩, (z2 33 (by decide) (by decide)).trans m2⟩
          · show h40.2.1 253 29 = (goS U N ((c2R U N k x.2.1).1, (c2R U N k x.2.1).2.1)).2.1
            rw [z3, go2, g]
          · have e5 : (nxR U N k x).2.1.2.2 = (c2R U N k x.2.1).2.2 := y4
            rw [e5, z2 34 (by decide) (by decide), z2 32 (by decide) (by decide), r0 281 (by decide), r0 282 (by decide)]
            exact B3.2.2.2 g
          · show skB U N p' = skB U N (goS U N ((c2R U N k x.2.1).1, (c2R U N k x.2.1).2.1)).2.2
            rw [a5 fz, go3 z0, g]
      · skip
        refine je_aload0 (pc := 31) d12025_31 rfl ?_
        refine je_iload1 (pc := 32) d12025_32 rfl ?_
        refine ju_callv (pc := 33) (as := [_]) d12025_33 jL_12_377 jM_Mo_ruleClause rfl (by decide) (sK253 x0) rfl (by exact Nat.le_of_ble_eq_true rfl) (t_Mo_ruleClause (d + 0) (n := k) M1 i3 hN hsl i1.1 i1 hU M2 i5) (fun r33 h33 q33 => ?_)
        obtain ⟨rfl, q1, q2, q3⟩ := q33
        have bb := q3 g
        refine ju_incN (pc := 36) (v := nI ((k) + 1)) (lv' := [some _, some _, some _]) d12025_36 rfl (nI_1 (k)) rfl ?_
        refine je_aload0 (pc := 39) d12025_39 rfl ?_
        refine ju_callv (pc := 40) (as := []) d12025_40 jL_12_351 jM_Mo_goesOn rfl (by decide) (sK253 (q1.1.St x0)) rfl (by exact Nat.le_of_ble_eq_true rfl) (t_Mo_goesOn_f (d + 9) bb g hN) (fun r40 h40 q40 => ?_)
        obtain ⟨rfl, z1, z2, z3⟩ := q40
        refine ju_eqi (v := b2 ((itR U N (k + 1)).1 = true)) (by rw [eI]; exact (b2_f (q := (nxR U N k x).1 = true) (fun z => g ((gs_j J2 hN).2.1 z).1)).symm) ?_
        refine ju_istore2 (pc := 43) (lv' := [some _, some _, some _]) d12025_43 rfl rfl ?_
        refine je_goto (pc := 44) 27 d12025_44 (by decide) ?_
        have e1 : (itR U N (k + 1)).2.2.1 = k + 1 := by
          rw [eI]
          show x.2.2.1 + 1 = k + 1
          rw [i4]
        have t := kk () h40 ⟨((j1.tr q1.R).tr (moR.g z1 z2)), ?_⟩
        · rw [e1] at t
          exact t
        rw [eI]
        obtain ⟨y1, y2, y3, y4⟩ := gs_j J2 hN
        have e0 : goS U N ((c2R U N k x.2.1).1, (c2R U N k x.2.1).2.1) = (false, ((c2R U N k x.2.1).1, (c2R U N k x.2.1).2.1)) := by unfold goS; rw [if_pos g]
        have nz : ¬ (nxR U N k x).2.1.1 = 0 := fun z => g (y3 z)
        refine ⟨z1.St bb.1.1, (z2 30 (by decide) (by decide)).trans bb.1.2.2.2.2.1, ?_, fun z => absurd z nz, fun z => absurd (y2 z).2 nz⟩
        show h40.2.1 253 29 = (goS U N ((c2R U N k x.2.1).1, (c2R U N k x.2.1).2.1)).2.1
        rw [e0]; exact z3
  · obtain ⟨j1, j2⟩ := e
    refine je_iload2 (pc := 27) d12025_27 rfl ?_
    refine jb_ifeq (pc := 28) 47 d12025_28 (by decide) (fun c28 => ?_) (fun c28 => absurd c28 (by rw [hK]; exact itR_13 hN))
    have ex := stX K (by omega) c28
    rw [ex] at j2 ⊢
    exact KX _ j1 j2
set_option maxHeartbeats 2000000 in
theorem t_Mo_rule_n (d : Nat) {bc bs : Nat} {h : jx_H} (H : jx_St h) (hr : h.2.1 253 31 = 6) : jx_Tr (d + 1) bc bs 12025 [.ref 253] h (fun r h' => r = some (.int (-1)) ∧ h' = h) := by
  refine jx_tr jM_Mo_rule rfl rfl (lv := [some (.ref 253), none, none]) rfl ?_
  refine je_aload0 (pc := 0) d12025_0 rfl ?_
  refine ju_geti (pc := 1) d12025_1 jF_12_374 rfl (sK253 H) ?_
  refine ju_eqi (v := nI 6) hr ?_
  refine je_bipush (pc := 4) (v := 6) d12025_4 rfl ?_
  refine jn_icne (pc := 6) (a := (6)) (b := 6) 11 d12025_6 (by decide) (by omega) (by omega) (fun c6 => by exfalso; omega) (fun c6 => ?_)
  refine je_iconst (pc := 9) (v := -1) d12025_9 rfl ?_
  refine je_iret (pc := 10) d12025_10 rfl ?_
  exact ⟨rfl, rfl⟩
