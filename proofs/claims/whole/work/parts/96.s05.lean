/-! a rule told: the model keeps signs -/
/-- what waits, its top first -/
def stJ (r : Nat → Int32) : List Int32 → Prop
  | [] => True
  | x :: σ => r σ.length = x ∧ stJ r σ
theorem stJ_up {r : Nat → Int32} {j : Nat} {v : Int32} : ∀ {σ : List Int32}, σ.length ≤ j → stJ r σ → stJ (jx_up r j v) σ
  | [], _, _ => trivial
  | x :: σ, hj, h => by
    rw [List.length_cons] at hj
    exact ⟨by rw [jx_up_ne _ _ (by omega)]; exact h.1, stJ_up (by omega) h.2⟩
def mtP (h : jx_H) (N sl : Nat) (U : Nat → Int32) (p : Nat) (s : RS) (σ : List Int32) (dp : Nat) : Prop := mrP h N sl U p s ∧ h.2.1 253 35 = nI σ.length ∧ stJ (h.2.1 287) σ ∧ h.2.1 253 33 = nI dp
def moT (sl : Nat) (h h' : jx_H) : Prop := fC (fun b => b = 253 ∨ b = 281 ∨ b = 282 ∨ b = 287) h h' ∧ (∀ j, j ≠ 28 → j ≠ 29 → j ≠ 32 → j ≠ 33 → j ≠ 34 → j ≠ 35 → h'.2.1 253 j = h.2.1 253 j) ∧ ∀ i, i < 300 * sl → h'.2.1 281 i = h.2.1 281 i ∧ h'.2.1 282 i = h.2.1 282 i
theorem moT.rf {sl : Nat} {h : jx_H} : moT sl h h := ⟨fC.rf, fun _ _ _ _ _ _ _ => rfl, fun _ _ => ⟨rfl, rfl⟩⟩
theorem moT.tr {sl : Nat} {h1 h2 h3 : jx_H} (x : moT sl h1 h2) (y : moT sl h2 h3) : moT sl h1 h3 := ⟨x.1.tr y.1, fun j a b c e f g => (y.2.1 j a b c e f g).trans (x.2.1 j a b c e f g), fun i hi => ⟨((y.2.2 i hi).1).trans (x.2.2 i hi).1, ((y.2.2 i hi).2).trans (x.2.2 i hi).2⟩⟩
theorem moF.T {sl : Nat} {h h' : jx_H} (x : moF sl h h') : moT sl h h' := ⟨x.1.mo (fun b e => by omega), fun j a b c _ e _ => x.2.1 j a b c e, x.2.2⟩
theorem moT.w {sl j : Nat} {h : jx_H} {v : Int32} (hj : j = 28 ∨ j = 29 ∨ j = 32 ∨ j = 33 ∨ j = 34 ∨ j = 35) : moT sl h (jx_wI h 253 j v) := ⟨fC.rf.wI (Or.inl rfl), fun i a b c e f g => by rw [wI_at, jx_up_ne _ _ (by omega)], fun i _ => by rw [wI_ne _ _ _ (by decide), wI_ne _ _ _ (by decide)]; exact ⟨rfl, rfl⟩⟩
theorem moT.o {sl j : Nat} {h : jx_H} {v : Int32} : moT sl h (jx_wI h 287 j v) := ⟨fC.rf.wI (Or.inr (Or.inr (Or.inr rfl))), fun i _ _ _ _ _ _ => by rw [wI_ne _ _ _ (by decide)], fun i _ => by rw [wI_ne _ _ _ (by decide), wI_ne _ _ _ (by decide)]; exact ⟨rfl, rfl⟩⟩
theorem mtP.F {h h' : jx_H} {N sl p p' dp : Nat} {U : Nat → Int32} {s s' : RS} {σ : List Int32} (B : mtP h N sl U p s σ dp) (F : moF sl h h') (B' : mrP h' N sl U p' s') : mtP h' N sl U p' s' σ dp := ⟨B', (F.2.1 35 (by decide) (by decide) (by decide) (by decide)).trans B.2.1, by rw [F.1.2 287 (by decide)]; exact B.2.2.1, (F.2.1 33 (by decide) (by decide) (by decide) (by decide)).trans B.2.2.2⟩
def mrB (h : jx_H) (N sl : Nat) (U : Nat → Int32) (f : Int32) : Prop := (jx_St h ∧ mT h = U ∧ (∀ j, j < N → (h.2.1 280 j).toInt8.toInt32 = h.2.1 280 j) ∧ h.2.1 253 27 = nI N ∧ h.2.1 253 30 = nI sl ∧ h.2.1 253 36 = 12) ∧ h.2.1 253 29 = f ∧ ∃ p, p ≤ N + 1 ∧ h.2.1 253 28 = nI p
theorem mrP.b {h : jx_H} {N sl p : Nat} {U : Nat → Int32} {s : RS} (B : mrP h N sl U p s) (hp : p ≤ N + 1) : mrB h N sl U s.1 := ⟨B.1, B.2.1, p, hp, B.2.2.1⟩
/-- places that keep the rest -/
theorem mrP.kp {h h' : jx_H} {N sl p : Nat} {U : Nat → Int32} {s : RS} (B : mrP h N sl U p s) (F : moT sl h h') (e : ∀ j, j = 28 ∨ j = 29 ∨ j = 32 ∨ j = 34 → h'.2.1 253 j = h.2.1 253 j) (e1 : h'.2.1 281 = h.2.1 281) (e2 : h'.2.1 282 = h.2.1 282) : mrP h' N sl U p s := by
  obtain ⟨⟨a1, a2, a3, a4, a5, a6⟩, b1, b2, b3⟩ := B
  have e0 : h'.2.1 280 = h.2.1 280 := F.1.2 280 (by decide)
  have k : ∀ j, j = 27 ∨ j = 30 ∨ j = 36 → h'.2.1 253 j = h.2.1 253 j := fun j hj => F.2.1 j (by omega) (by omega) (by omega) (by omega) (by omega) (by omega)
  refine ⟨⟨F.1.St a1, ?_, by rw [e0]; exact a3, by rw [k 27 (by decide)]; exact a4, by rw [k 30 (by decide)]; exact a5, by rw [k 36 (by decide)]; exact a6⟩, by rw [e 29 (by decide)]; exact b1, by rw [e 28 (by decide)]; exact b2, ?_⟩
  · rw [← a2]; funext i; unfold mT; rw [e0]
  · rw [e 34 (by decide), e 32 (by decide), e1, e2]; exact b3
theorem mt_ps {h : jx_H} {N sl p dp dq : Nat} {U : Nat → Int32} {s : RS} {σ : List Int32} {k : Int32} (B : mrP h N sl U p s) (b1 : h.2.1 253 35 = nI σ.length) (b2 : stJ (h.2.1 287) σ) (b3 : h.2.1 253 33 = nI dp) (hd : h.2.1 253 33 = nI dp) : mtP (jx_wI (jx_wI h 287 σ.length k) 253 35 (nI (σ.length + 1))) N sl U p s (k :: σ) dp ∧ moT sl h (jx_wI (jx_wI h 287 σ.length k) 253 35 (nI (σ.length + 1))) := by
  have F : moT sl h (jx_wI (jx_wI h 287 σ.length k) 253 35 (nI (σ.length + 1))) := moT.o.tr (moT.w (by decide))
  have e287 : (jx_wI (jx_wI h 287 σ.length k) 253 35 (nI (σ.length + 1))).2.1 287 = jx_up (h.2.1 287) σ.length k := by rw [wI_ne _ _ _ (by decide), wI_at]
  refine ⟨⟨B.kp F (fun j hj => ?_) ?_ ?_, ?_, ?_, ?_⟩, F⟩
  · rw [wI_at, jx_up_ne _ _ (by omega), wI_ne _ _ _ (by decide)]
  · rw [wI_ne _ _ _ (by decide), wI_ne _ _ _ (by decide)]
  · rw [wI_ne _ _ _ (by decide), wI_ne _ _ _ (by decide)]
  · rw [wI_at, jx_up_self]; rfl
  · rw [e287]; exact ⟨jx_up_self _ _ _, stJ_up (Nat.le_refl _) b2⟩
  · rw [wI_at, jx_up_ne _ _ (by decide), wI_ne _ _ _ (by decide)]; exact b3
theorem mt_dp {h : jx_H} {N sl p dp : Nat} {U : Nat → Int32} {s : RS} {σ : List Int32} (v : Nat) (B : mtP h N sl U p s σ dp) : mtP (jx_wI h 253 33 (nI v)) N sl U p s σ v ∧ moT sl h (jx_wI h 253 33 (nI v)) := by
  have F : moT sl h (jx_wI h 253 33 (nI v)) := moT.w (by decide)
  refine ⟨⟨B.1.kp F (fun j hj => ?_) ?_ ?_, ?_, ?_, ?_⟩, F⟩
  · rw [wI_at, jx_up_ne _ _ (by omega)]
  · rw [wI_ne _ _ _ (by decide)]
  · rw [wI_ne _ _ _ (by decide)]
  · rw [wI_at, jx_up_ne _ _ (by decide)]; exact B.2.1
  · rw [wI_ne _ _ _ (by decide)]; exact B.2.2.1
  · rw [wI_at, jx_up_self]
theorem mt_pp {h : jx_H} {N sl p dp : Nat} {U : Nat → Int32} {s : RS} {σ : List Int32} {k : Int32} (B : mtP h N sl U p s (k :: σ) dp) : mtP (jx_wI h 253 35 (nI σ.length)) N sl U p s σ dp ∧ moT sl h (jx_wI h 253 35 (nI σ.length)) := by
  have F : moT sl h (jx_wI h 253 35 (nI σ.length)) := moT.w (by decide)
  refine ⟨⟨B.1.kp F (fun j hj => ?_) ?_ ?_, ?_, ?_, ?_⟩, F⟩
  · rw [wI_at, jx_up_ne _ _ (by omega)]
  · rw [wI_ne _ _ _ (by decide)]
  · rw [wI_ne _ _ _ (by decide)]
  · rw [wI_at, jx_up_self]
  · rw [wI_ne _ _ _ (by decide)]; exact B.2.2.1.2
  · rw [wI_at, jx_up_ne _ _ (by decide)]; exact B.2.2.2
theorem mtP.p {h : jx_H} {N sl p dp : Nat} {U : Nat → Int32} {s : RS} {σ : List Int32} (B : mtP h N sl U p s σ dp) (q : Nat) : mtP (jx_wI h 253 28 (nI q)) N sl U q s σ dp := B.F (moF.w (Or.inl rfl)) (B.1.p q)
theorem t_Mo_top (d : Nat) {bc bs : Nat} {h : jx_H} {N sl p dp : Nat} {U : Nat → Int32} {s : RS} {σ : List Int32} (B : mtP h N sl U p s σ dp) (L : σ.length ≤ 400) : jx_Tr (d + 1) bc bs 12039 [.ref 253] h (fun r h' => r = some (.int (σ.headD (-1))) ∧ h' = h) := by
  refine jx_tr jM_Mo_top rfl rfl (lv := [some (.ref 253)]) rfl ?_
  cases σ with
  | nil =>
    have b1 : h.2.1 253 35 = nI 0 := B.2.1
    refine je_aload0 (pc := 0) d12039_0 rfl ?_
    refine ju_geti (pc := 1) d12039_1 jF_12_285 rfl (sK253 B.1.1.1) ?_
    refine ju_eqi (v := nI 0) b1 ?_
    refine jn_ifne (pc := 4) (a := (0)) 11 d12039_4 (by decide) (by omega) (fun c4 => by exfalso; omega) (fun c4 => ?_)
    refine je_iconst (pc := 7) (v := -1) d12039_7 rfl ?_
    refine je_goto (pc := 8) 22 d12039_8 (by decide) ?_
    refine je_iret (pc := 22) d12039_22 rfl ?_
    exact ⟨rfl, rfl⟩
  | cons x σ =>
    have b1 : h.2.1 253 35 = nI (σ.length + 1) := B.2.1
    rw [List.length_cons] at L
    have b2 : h.2.1 287 σ.length = x := B.2.2.1.1
    refine je_aload0 (pc := 0) d12039_0 rfl ?_
    refine ju_geti (pc := 1) d12039_1 jF_12_285 rfl (sK253 B.1.1.1) ?_
    refine ju_eqi (v := nI (σ.length + 1)) b1 ?_
    refine jn_ifne (pc := 4) (a := (σ.length + 1)) 11 d12039_4 (by decide) (by omega) (fun c4 => ?_) (fun c4 => by exfalso; omega)
    refine je_aload0 (pc := 11) d12039_11 rfl ?_
    refine ju_getr (pc := 12) (b := 287) d12039_12 jF_12_114 rfl (sK253 B.1.1.1) (sR253_44 B.1.1.1) ?_
    refine je_aload0 (pc := 15) d12039_15 rfl ?_
    refine ju_geti (pc := 16) d12039_16 jF_12_285 rfl (sK253 B.1.1.1) ?_
    refine ju_eqi (v := nI (σ.length + 1)) b1 ?_
    refine je_iconst (pc := 19) (v := 1) d12039_19 rfl ?_
    refine je_isub (pc := 20) d12039_20 ?_
    refine ju_eqi (v := nI ((σ.length + 1) - 1)) (pk_sub (a := (σ.length + 1)) (b := 1) (by omega)) ?_
    refine ju_iald (pc := 21) (jn := ((σ.length + 1) - 1)) d12039_21 (sK287 B.1.1.1) (vp_in_nI (by omega) (by decide)) (nI_clamp (by omega)) ?_
    refine ju_eqi (v := x) (by rw [show σ.length + 1 - 1 = σ.length by omega]; exact b2) ?_
    refine je_iret (pc := 22) d12039_22 rfl ?_
    exact ⟨rfl, rfl⟩
set_option maxHeartbeats 2000000 in
theorem t_Mo_opens_9 (d : Nat) {bc bs : Nat} {h : jx_H} {N sl p dp : Nat} {U : Nat → Int32} {s : RS} {σ : List Int32} (B : mtP h N sl U p s σ dp) (L : σ.length ≤ 400) (hd : dp < 10) : jx_Tr (d + 2) bc bs 12036 [.ref 253, .int 9] h (fun r h' => r = none ∧ moT sl h h' ∧ mtP h' N sl U p s (9 :: σ) (dp + 1)) := by
  refine jx_tr jM_Mo_opens rfl rfl (lv := [some (.ref 253), some (.int 9)]) rfl ?_
  refine je_iload1 (pc := 0) d12036_0 rfl ?_
  refine je_bipush (pc := 1) (v := 9) d12036_1 rfl ?_
  refine jn_iceq (pc := 3) (a := 9) (b := 9) 12 d12036_3 (by decide) (by omega) (by omega) (fun c3 => ?_) (fun c3 => by exfalso; omega)
  refine je_aload0 (pc := 12) d12036_12 rfl ?_
  refine ju_geti (pc := 13) d12036_13 jF_12_288 rfl (sK253 B.1.1.1) ?_
  refine ju_eqi (v := nI dp) B.2.2.2 ?_
  refine je_bipush (pc := 16) (v := 10) d12036_16 rfl ?_
  refine jn_icne (pc := 18) (a := (dp)) (b := 10) 30 d12036_18 (by decide) (by omega) (by omega) (fun c18 => ?_) (fun c18 => by exfalso; omega)
  refine je_aload0 (pc := 30) d12036_30 rfl ?_
  refine je_dup (pc := 31) d12036_31 rfl ?_
  refine ju_geti (pc := 32) d12036_32 jF_12_288 rfl (sK253 B.1.1.1) ?_
  refine ju_eqi (v := nI dp) B.2.2.2 ?_
  refine je_iconst (pc := 35) (v := 1) d12036_35 rfl ?_
  refine je_iadd (pc := 36) d12036_36 ?_
  refine ju_eqi (v := nI ((dp) + 1)) (nI_add (dp) 1) ?_
  refine ju_puti (pc := 37) d12036_37 jF_12_288 rfl (sK253 B.1.1.1) ?_
  obtain ⟨B1, F1⟩ := mt_dp (dp + 1) B
  refine je_aload0 (pc := 40) d12036_40 rfl ?_
  refine ju_getr (pc := 41) (b := 287) d12036_41 jF_12_114 rfl (sK253 B.1.1.1.wI) (sR253_44 B.1.1.1.wI) ?_
  refine je_aload0 (pc := 44) d12036_44 rfl ?_
  refine ju_geti (pc := 45) d12036_45 jF_12_285 rfl (sK253 B.1.1.1.wI) ?_
  refine ju_eqi (v := nI σ.length) B1.2.1 ?_
  refine je_iload1 (pc := 48) d12036_48 rfl ?_
  refine ju_iast (pc := 49) (jn := (σ.length)) d12036_49 (sK287 B.1.1.1.wI) (vp_in_nI (by omega) (by decide)) (nI_clamp (by omega)) ?_
  refine je_aload0 (pc := 50) d12036_50 rfl ?_
  refine je_dup (pc := 51) d12036_51 rfl ?_
  refine ju_geti (pc := 52) d12036_52 jF_12_285 rfl (sK253 B.1.1.1.wI.wI) ?_
  refine ju_eqi (v := nI σ.length) (by rw [wI_ne _ _ _ (by decide)]; exact B1.2.1) ?_
  refine je_iconst (pc := 55) (v := 1) d12036_55 rfl ?_
  refine je_iadd (pc := 56) d12036_56 ?_
  refine ju_eqi (v := nI ((σ.length) + 1)) (nI_add (σ.length) 1) ?_
  refine ju_puti (pc := 57) d12036_57 jF_12_285 rfl (sK253 B.1.1.1.wI.wI) ?_
  refine je_ret (pc := 60) d12036_60 rfl ?_
  obtain ⟨B2, F2⟩ := mt_ps (k := 9) (dq := 0) B1.1 B1.2.1 B1.2.2.1 B1.2.2.2 B1.2.2.2
  exact ⟨rfl, F1.tr F2, B2⟩
set_option maxHeartbeats 2000000 in
theorem t_Mo_opens_9x (d : Nat) {bc bs : Nat} {h : jx_H} {N sl p dp : Nat} {U : Nat → Int32} {s : RS} {σ : List Int32} (B : mtP h N sl U p s σ dp) (L : σ.length ≤ 400) (hd : dp = 10) (hp : p ≤ N) (hN : N ≤ 400) : jx_Tr (d + 2) bc bs 12036 [.ref 253, .int 9] h (fun r h' => r = none ∧ moT sl h h' ∧ mrP h' N sl U p (flP p 2 s)) := by
  refine jx_tr jM_Mo_opens rfl rfl (lv := [some (.ref 253), some (.int 9)]) rfl ?_
  refine je_iload1 (pc := 0) d12036_0 rfl ?_
  refine je_bipush (pc := 1) (v := 9) d12036_1 rfl ?_
  refine jn_iceq (pc := 3) (a := 9) (b := 9) 12 d12036_3 (by decide) (by omega) (by omega) (fun c3 => ?_) (fun c3 => by exfalso; omega)
  refine je_aload0 (pc := 12) d12036_12 rfl ?_
  refine ju_geti (pc := 13) d12036_13 jF_12_288 rfl (sK253 B.1.1.1) ?_
  refine ju_eqi (v := nI dp) B.2.2.2 ?_
  refine je_bipush (pc := 16) (v := 10) d12036_16 rfl ?_
  refine jn_icne (pc := 18) (a := (dp)) (b := 10) 30 d12036_18 (by decide) (by omega) (by omega) (fun c18 => by exfalso; omega) (fun c18 => ?_)
  refine je_aload0 (pc := 21) d12036_21 rfl ?_
  refine je_iconst (pc := 22) (v := 2) d12036_22 rfl ?_
  refine je_aload0 (pc := 23) d12036_23 rfl ?_
  refine ju_geti (pc := 24) d12036_24 jF_12_217 rfl (sK253 B.1.1.1) ?_
  refine ju_eqi (v := nI p) B.1.2.2.1 ?_
  refine ju_callv (pc := 27) (as := [_, _]) d12036_27 jL_12_253 jM_Mo_fails rfl (by decide) (sK253 B.1.1.1) rfl (by exact Nat.le_of_ble_eq_true rfl) (t_Mo_fails_R d (q := p) (c := 2) B.1 (by omega) (by decide)) (fun r27 h27 q27 => ?_)
  obtain ⟨rfl, F0, C0⟩ := q27
  have B0 := B.F F0 C0
  refine je_aload0 (pc := 30) d12036_30 rfl ?_
  refine je_dup (pc := 31) d12036_31 rfl ?_
  refine ju_geti (pc := 32) d12036_32 jF_12_288 rfl (sK253 B0.1.1.1) ?_
  refine ju_eqi (v := nI dp) B0.2.2.2 ?_
  refine je_iconst (pc := 35) (v := 1) d12036_35 rfl ?_
  refine je_iadd (pc := 36) d12036_36 ?_
  refine ju_eqi (v := nI ((dp) + 1)) (nI_add (dp) 1) ?_
  refine ju_puti (pc := 37) d12036_37 jF_12_288 rfl (sK253 B0.1.1.1) ?_
  obtain ⟨B1, F1⟩ := mt_dp (dp + 1) B0
  refine je_aload0 (pc := 40) d12036_40 rfl ?_
  refine ju_getr (pc := 41) (b := 287) d12036_41 jF_12_114 rfl (sK253 B0.1.1.1.wI) (sR253_44 B0.1.1.1.wI) ?_
  refine je_aload0 (pc := 44) d12036_44 rfl ?_
  refine ju_geti (pc := 45) d12036_45 jF_12_285 rfl (sK253 B0.1.1.1.wI) ?_
  refine ju_eqi (v := nI σ.length) B1.2.1 ?_
  refine je_iload1 (pc := 48) d12036_48 rfl ?_
  refine ju_iast (pc := 49) (jn := (σ.length)) d12036_49 (sK287 B0.1.1.1.wI) (vp_in_nI (by omega) (by decide)) (nI_clamp (by omega)) ?_
  refine je_aload0 (pc := 50) d12036_50 rfl ?_
  refine je_dup (pc := 51) d12036_51 rfl ?_
  refine ju_geti (pc := 52) d12036_52 jF_12_285 rfl (sK253 B0.1.1.1.wI.wI) ?_
  refine ju_eqi (v := nI σ.length) (by rw [wI_ne _ _ _ (by decide)]; exact B1.2.1) ?_
  refine je_iconst (pc := 55) (v := 1) d12036_55 rfl ?_
  refine je_iadd (pc := 56) d12036_56 ?_
  refine ju_eqi (v := nI ((σ.length) + 1)) (nI_add (σ.length) 1) ?_
  refine ju_puti (pc := 57) d12036_57 jF_12_285 rfl (sK253 B0.1.1.1.wI.wI) ?_
  refine je_ret (pc := 60) d12036_60 rfl ?_
  obtain ⟨B2, F2⟩ := mt_ps (k := 9) (dq := 0) B1.1 B1.2.1 B1.2.2.1 B1.2.2.2 B1.2.2.2
  exact ⟨rfl, (F0.T.tr F1).tr F2, B2.1⟩
set_option maxHeartbeats 2000000 in
theorem t_Mo_opens_12 (d : Nat) {bc bs : Nat} {h : jx_H} {N sl p dp : Nat} {U : Nat → Int32} {s : RS} {σ : List Int32} (B : mtP h N sl U p s σ dp) (L : σ.length ≤ 400) (hd : dp < 10) : jx_Tr (d + 2) bc bs 12036 [.ref 253, .int 12] h (fun r h' => r = none ∧ moT sl h h' ∧ mtP h' N sl U p s (12 :: σ) (dp + 1)) := by
  refine jx_tr jM_Mo_opens rfl rfl (lv := [some (.ref 253), some (.int 12)]) rfl ?_
  refine je_iload1 (pc := 0) d12036_0 rfl ?_
  refine je_bipush (pc := 1) (v := 9) d12036_1 rfl ?_
  refine jn_iceq (pc := 3) (a := 12) (b := 9) 12 d12036_3 (by decide) (by omega) (by omega) (fun c3 => by exfalso; omega) (fun c3 => ?_)
  refine je_iload1 (pc := 6) d12036_6 rfl ?_
  refine je_bipush (pc := 7) (v := 12) d12036_7 rfl ?_
  refine jn_icne (pc := 9) (a := 12) (b := 12) 40 d12036_9 (by decide) (by omega) (by omega) (fun c9 => by exfalso; omega) (fun c9 => ?_)
  refine je_aload0 (pc := 12) d12036_12 rfl ?_
  refine ju_geti (pc := 13) d12036_13 jF_12_288 rfl (sK253 B.1.1.1) ?_
  refine ju_eqi (v := nI dp) B.2.2.2 ?_
  refine je_bipush (pc := 16) (v := 10) d12036_16 rfl ?_
  refine jn_icne (pc := 18) (a := (dp)) (b := 10) 30 d12036_18 (by decide) (by omega) (by omega) (fun c18 => ?_) (fun c18 => by exfalso; omega)
  refine je_aload0 (pc := 30) d12036_30 rfl ?_
  refine je_dup (pc := 31) d12036_31 rfl ?_
  refine ju_geti (pc := 32) d12036_32 jF_12_288 rfl (sK253 B.1.1.1) ?_
  refine ju_eqi (v := nI dp) B.2.2.2 ?_
  refine je_iconst (pc := 35) (v := 1) d12036_35 rfl ?_
  refine je_iadd (pc := 36) d12036_36 ?_
  refine ju_eqi (v := nI ((dp) + 1)) (nI_add (dp) 1) ?_
  refine ju_puti (pc := 37) d12036_37 jF_12_288 rfl (sK253 B.1.1.1) ?_
  obtain ⟨B1, F1⟩ := mt_dp (dp + 1) B
  refine je_aload0 (pc := 40) d12036_40 rfl ?_
  refine ju_getr (pc := 41) (b := 287) d12036_41 jF_12_114 rfl (sK253 B.1.1.1.wI) (sR253_44 B.1.1.1.wI) ?_
  refine je_aload0 (pc := 44) d12036_44 rfl ?_
  refine ju_geti (pc := 45) d12036_45 jF_12_285 rfl (sK253 B.1.1.1.wI) ?_
  refine ju_eqi (v := nI σ.length) B1.2.1 ?_
  refine je_iload1 (pc := 48) d12036_48 rfl ?_
  refine ju_iast (pc := 49) (jn := (σ.length)) d12036_49 (sK287 B.1.1.1.wI) (vp_in_nI (by omega) (by decide)) (nI_clamp (by omega)) ?_
  refine je_aload0 (pc := 50) d12036_50 rfl ?_
  refine je_dup (pc := 51) d12036_51 rfl ?_
  refine ju_geti (pc := 52) d12036_52 jF_12_285 rfl (sK253 B.1.1.1.wI.wI) ?_
  refine ju_eqi (v := nI σ.length) (by rw [wI_ne _ _ _ (by decide)]; exact B1.2.1) ?_
  refine je_iconst (pc := 55) (v := 1) d12036_55 rfl ?_
  refine je_iadd (pc := 56) d12036_56 ?_
  refine ju_eqi (v := nI ((σ.length) + 1)) (nI_add (σ.length) 1) ?_
  refine ju_puti (pc := 57) d12036_57 jF_12_285 rfl (sK253 B.1.1.1.wI.wI) ?_
  refine je_ret (pc := 60) d12036_60 rfl ?_
  obtain ⟨B2, F2⟩ := mt_ps (k := 12) (dq := 0) B1.1 B1.2.1 B1.2.2.1 B1.2.2.2 B1.2.2.2
  exact ⟨rfl, F1.tr F2, B2⟩
set_option maxHeartbeats 2000000 in
theorem t_Mo_opens_12x (d : Nat) {bc bs : Nat} {h : jx_H} {N sl p dp : Nat} {U : Nat → Int32} {s : RS} {σ : List Int32} (B : mtP h N sl U p s σ dp) (L : σ.length ≤ 400) (hd : dp = 10) (hp : p ≤ N) (hN : N ≤ 400) : jx_Tr (d + 2) bc bs 12036 [.ref 253, .int 12] h (fun r h' => r = none ∧ moT sl h h' ∧ mrP h' N sl U p (flP p 2 s)) := by
  refine jx_tr jM_Mo_opens rfl rfl (lv := [some (.ref 253), some (.int 12)]) rfl ?_
  refine je_iload1 (pc := 0) d12036_0 rfl ?_
  refine je_bipush (pc := 1) (v := 9) d12036_1 rfl ?_
  refine jn_iceq (pc := 3) (a := 12) (b := 9) 12 d12036_3 (by decide) (by omega) (by omega) (fun c3 => by exfalso; omega) (fun c3 => ?_)
  refine je_iload1 (pc := 6) d12036_6 rfl ?_
  refine je_bipush (pc := 7) (v := 12) d12036_7 rfl ?_
  refine jn_icne (pc := 9) (a := 12) (b := 12) 40 d12036_9 (by decide) (by omega) (by omega) (fun c9 => by exfalso; omega) (fun c9 => ?_)
  refine je_aload0 (pc := 12) d12036_12 rfl ?_
  refine ju_geti (pc := 13) d12036_13 jF_12_288 rfl (sK253 B.1.1.1) ?_
  refine ju_eqi (v := nI dp) B.2.2.2 ?_
  refine je_bipush (pc := 16) (v := 10) d12036_16 rfl ?_
  refine jn_icne (pc := 18) (a := (dp)) (b := 10) 30 d12036_18 (by decide) (by omega) (by omega) (fun c18 => by exfalso; omega) (fun c18 => ?_)
  refine je_aload0 (pc := 21) d12036_21 rfl ?_
  refine je_iconst (pc := 22) (v := 2) d12036_22 rfl ?_
  refine je_aload0 (pc := 23) d12036_23 rfl ?_
  refine ju_geti (pc := 24) d12036_24 jF_12_217 rfl (sK253 B.1.1.1) ?_
  refine ju_eqi (v := nI p) B.1.2.2.1 ?_
  refine ju_callv (pc := 27) (as := [_, _]) d12036_27 jL_12_253 jM_Mo_fails rfl (by decide) (sK253 B.1.1.1) rfl (by exact Nat.le_of_ble_eq_true rfl) (t_Mo_fails_R d (q := p) (c := 2) B.1 (by omega) (by decide)) (fun r27 h27 q27 => ?_)
  obtain ⟨rfl, F0, C0⟩ := q27
  have B0 := B.F F0 C0
  refine je_aload0 (pc := 30) d12036_30 rfl ?_
  refine je_dup (pc := 31) d12036_31 rfl ?_
  refine ju_geti (pc := 32) d12036_32 jF_12_288 rfl (sK253 B0.1.1.1) ?_
  refine ju_eqi (v := nI dp) B0.2.2.2 ?_
  refine je_iconst (pc := 35) (v := 1) d12036_35 rfl ?_
  refine je_iadd (pc := 36) d12036_36 ?_
  refine ju_eqi (v := nI ((dp) + 1)) (nI_add (dp) 1) ?_
  refine ju_puti (pc := 37) d12036_37 jF_12_288 rfl (sK253 B0.1.1.1) ?_
  obtain ⟨B1, F1⟩ := mt_dp (dp + 1) B0
  refine je_aload0 (pc := 40) d12036_40 rfl ?_
  refine ju_getr (pc := 41) (b := 287) d12036_41 jF_12_114 rfl (sK253 B0.1.1.1.wI) (sR253_44 B0.1.1.1.wI) ?_
  refine je_aload0 (pc := 44) d12036_44 rfl ?_
  refine ju_geti (pc := 45) d12036_45 jF_12_285 rfl (sK253 B0.1.1.1.wI) ?_
  refine ju_eqi (v := nI σ.length) B1.2.1 ?_
  refine je_iload1 (pc := 48) d12036_48 rfl ?_
  refine ju_iast (pc := 49) (jn := (σ.length)) d12036_49 (sK287 B0.1.1.1.wI) (vp_in_nI (by omega) (by decide)) (nI_clamp (by omega)) ?_
  refine je_aload0 (pc := 50) d12036_50 rfl ?_
  refine je_dup (pc := 51) d12036_51 rfl ?_
  refine ju_geti (pc := 52) d12036_52 jF_12_285 rfl (sK253 B0.1.1.1.wI.wI) ?_
  refine ju_eqi (v := nI σ.length) (by rw [wI_ne _ _ _ (by decide)]; exact B1.2.1) ?_
  refine je_iconst (pc := 55) (v := 1) d12036_55 rfl ?_
  refine je_iadd (pc := 56) d12036_56 ?_
  refine ju_eqi (v := nI ((σ.length) + 1)) (nI_add (σ.length) 1) ?_
  refine ju_puti (pc := 57) d12036_57 jF_12_285 rfl (sK253 B0.1.1.1.wI.wI) ?_
  refine je_ret (pc := 60) d12036_60 rfl ?_
  obtain ⟨B2, F2⟩ := mt_ps (k := 12) (dq := 0) B1.1 B1.2.1 B1.2.2.1 B1.2.2.2 B1.2.2.2
  exact ⟨rfl, (F0.T.tr F1).tr F2, B2.1⟩
set_option maxHeartbeats 2000000 in
theorem t_Mo_opens_10 (d : Nat) {bc bs : Nat} {h : jx_H} {N sl p dp : Nat} {U : Nat → Int32} {s : RS} {σ : List Int32} (B : mtP h N sl U p s σ dp) (L : σ.length ≤ 400) : jx_Tr (d + 2) bc bs 12036 [.ref 253, .int 10] h (fun r h' => r = none ∧ moT sl h h' ∧ mtP h' N sl U p s (10 :: σ) dp) := by
  refine jx_tr jM_Mo_opens rfl rfl (lv := [some (.ref 253), some (.int 10)]) rfl ?_
  refine je_iload1 (pc := 0) d12036_0 rfl ?_
  refine je_bipush (pc := 1) (v := 9) d12036_1 rfl ?_
  refine jn_iceq (pc := 3) (a := 10) (b := 9) 12 d12036_3 (by decide) (by omega) (by omega) (fun c3 => by exfalso; omega) (fun c3 => ?_)
  refine je_iload1 (pc := 6) d12036_6 rfl ?_
  refine je_bipush (pc := 7) (v := 12) d12036_7 rfl ?_
  refine jn_icne (pc := 9) (a := 10) (b := 12) 40 d12036_9 (by decide) (by omega) (by omega) (fun c9 => ?_) (fun c9 => by exfalso; omega)
  refine je_aload0 (pc := 40) d12036_40 rfl ?_
  refine ju_getr (pc := 41) (b := 287) d12036_41 jF_12_114 rfl (sK253 B.1.1.1) (sR253_44 B.1.1.1) ?_
  refine je_aload0 (pc := 44) d12036_44 rfl ?_
  refine ju_geti (pc := 45) d12036_45 jF_12_285 rfl (sK253 B.1.1.1) ?_
  refine ju_eqi (v := nI σ.length) B.2.1 ?_
  refine je_iload1 (pc := 48) d12036_48 rfl ?_
  refine ju_iast (pc := 49) (jn := (σ.length)) d12036_49 (sK287 B.1.1.1) (vp_in_nI (by omega) (by decide)) (nI_clamp (by omega)) ?_
  refine je_aload0 (pc := 50) d12036_50 rfl ?_
  refine je_dup (pc := 51) d12036_51 rfl ?_
  refine ju_geti (pc := 52) d12036_52 jF_12_285 rfl (sK253 B.1.1.1.wI) ?_
  refine ju_eqi (v := nI σ.length) (by rw [wI_ne _ _ _ (by decide)]; exact B.2.1) ?_
  refine je_iconst (pc := 55) (v := 1) d12036_55 rfl ?_
  refine je_iadd (pc := 56) d12036_56 ?_
  refine ju_eqi (v := nI ((σ.length) + 1)) (nI_add (σ.length) 1) ?_
  refine ju_puti (pc := 57) d12036_57 jF_12_285 rfl (sK253 B.1.1.1.wI) ?_
  refine je_ret (pc := 60) d12036_60 rfl ?_
  obtain ⟨B2, F2⟩ := mt_ps (k := 10) (dq := 0) B.1 B.2.1 B.2.2.1 B.2.2.2 B.2.2.2
  exact ⟨rfl, F2, B2⟩
set_option maxHeartbeats 2000000 in
theorem t_Mo_opens_11 (d : Nat) {bc bs : Nat} {h : jx_H} {N sl p dp : Nat} {U : Nat → Int32} {s : RS} {σ : List Int32} (B : mtP h N sl U p s σ dp) (L : σ.length ≤ 400) : jx_Tr (d + 2) bc bs 12036 [.ref 253, .int 11] h (fun r h' => r = none ∧ moT sl h h' ∧ mtP h' N sl U p s (11 :: σ) dp) := by
  refine jx_tr jM_Mo_opens rfl rfl (lv := [some (.ref 253), some (.int 11)]) rfl ?_
  refine je_iload1 (pc := 0) d12036_0 rfl ?_
  refine je_bipush (pc := 1) (v := 9) d12036_1 rfl ?_
  refine jn_iceq (pc := 3) (a := 11) (b := 9) 12 d12036_3 (by decide) (by omega) (by omega) (fun c3 => by exfalso; omega) (fun c3 => ?_)
  refine je_iload1 (pc := 6) d12036_6 rfl ?_
  refine je_bipush (pc := 7) (v := 12) d12036_7 rfl ?_
  refine jn_icne (pc := 9) (a := 11) (b := 12) 40 d12036_9 (by decide) (by omega) (by omega) (fun c9 => ?_) (fun c9 => by exfalso; omega)
  refine je_aload0 (pc := 40) d12036_40 rfl ?_
  refine ju_getr (pc := 41) (b := 287) d12036_41 jF_12_114 rfl (sK253 B.1.1.1) (sR253_44 B.1.1.1) ?_
  refine je_aload0 (pc := 44) d12036_44 rfl ?_
  refine ju_geti (pc := 45) d12036_45 jF_12_285 rfl (sK253 B.1.1.1) ?_
  refine ju_eqi (v := nI σ.length) B.2.1 ?_
  refine je_iload1 (pc := 48) d12036_48 rfl ?_
  refine ju_iast (pc := 49) (jn := (σ.length)) d12036_49 (sK287 B.1.1.1) (vp_in_nI (by omega) (by decide)) (nI_clamp (by omega)) ?_
  refine je_aload0 (pc := 50) d12036_50 rfl ?_
  refine je_dup (pc := 51) d12036_51 rfl ?_
  refine ju_geti (pc := 52) d12036_52 jF_12_285 rfl (sK253 B.1.1.1.wI) ?_
  refine ju_eqi (v := nI σ.length) (by rw [wI_ne _ _ _ (by decide)]; exact B.2.1) ?_
  refine je_iconst (pc := 55) (v := 1) d12036_55 rfl ?_
  refine je_iadd (pc := 56) d12036_56 ?_
  refine ju_eqi (v := nI ((σ.length) + 1)) (nI_add (σ.length) 1) ?_
  refine ju_puti (pc := 57) d12036_57 jF_12_285 rfl (sK253 B.1.1.1.wI) ?_
  refine je_ret (pc := 60) d12036_60 rfl ?_
  obtain ⟨B2, F2⟩ := mt_ps (k := 11) (dq := 0) B.1 B.2.1 B.2.2.1 B.2.2.2 B.2.2.2
  exact ⟨rfl, F2, B2⟩
def adN (x : Int32) : Nat → RS → RS
  | 0, s => s
  | m + 1, s => adN x m (adR x s)
theorem aN_1 {x : Int32} : ∀ {m : Nat} {s : RS}, s.1 = 0 → (adN x m s).1 = 0 ∧ (adN x m s).2.1 = s.2.1 ∧ (adN x m s).2.2.1 = s.2.2.1 ∧ (adN x m s).2.2.2.length = s.2.2.2.length + m
  | 0, s, h => ⟨h, rfl, rfl, rfl⟩
  | m + 1, s, h => by
    rw [adN]
    obtain ⟨a1, a2, a3, a4⟩ := aN_1 (x := x) (m := m) (s := adR x s) (by rw [ad_o h])
    rw [ad_o h] at a2 a3 a4
    refine ⟨by rw [ad_o h]; rw [ad_o h] at a1; exact a1, by rw [ad_o h]; exact a2, by rw [ad_o h]; exact a3, ?_⟩
    rw [ad_o h, a4]
    dsimp only
    rw [List.length_append, List.length_singleton]
    omega
theorem aN_f {x : Int32} {s : RS} (h : ¬ s.1 = 0) : ∀ {m : Nat}, adN x m s = s
  | 0 => rfl
  | m + 1 => by rw [adN, ad_f h, aN_f h]
theorem aN_s {x : Int32} : ∀ {m : Nat} {s : RS}, adN x (m + 1) s = adR x (adN x m s)
  | 0, s => rfl
  | m + 1, s => by rw [adN, aN_s, adN]
theorem nI_p1 (x : Nat) : nI (x + 1) - 1 = nI x := by
  have e := pk_sub (a := x + 1) (b := 1) (by omega)
  rw [Nat.add_sub_cancel] at e
  exact e
theorem en_9 : encR 9 0 = -13 ∧ encR 10 0 = -11 ∧ encR 11 0 = -12 := by decide +kernel
set_option maxHeartbeats 2000000 in
theorem t_Mo_answers_9 (d : Nat) {bc bs : Nat} {h : jx_H} {N sl p dp m : Nat} {U : Nat → Int32} {s : RS} {τ : List Int32} (B : mtP h N sl U p s (List.replicate m 9 ++ τ) dp) (f : s.1 = 0) (hsl : sl < 6) (L : m + τ.length ≤ 400) (LE : s.2.2.2.length + m < 300) (ht : ¬ τ.headD (-1) = 9) (hm : m ≤ dp) (hd : dp ≤ 10) : jx_Tr (d + 2) bc bs 12038 [.ref 253, .int 9] h (fun r h' => r = none ∧ moT sl h h' ∧ mtP h' N sl U p (adN (-13) m s) τ (dp - m)) := by
  refine jx_tr jM_Mo_answers rfl rfl (lv := [some (.ref 253), some (.int 9)]) rfl ?_
  refine je_loop (σ := Unit) (m) (fun k xx => [some (.ref 253), some (.int 9)]) (fun k _ h' => moT sl h h' ∧ mtP h' N sl U p (adN (-13) k s) (List.replicate (m - k) 9 ++ τ) (dp - k)) (fun k xx h' hk e kk => ?_) (fun xx h' e => ?_) (0) () h (by omega) ⟨moT.rf, B⟩
  · obtain ⟨j1, j2⟩ := e
    have ls : (List.replicate (m - k) 9 ++ τ).length = m - k + τ.length := by rw [List.length_append, List.length_replicate]
    have f1 := (aN_1 (x := (-13)) (m := k) f).1
    have es : (List.replicate (m - k) 9 ++ τ) = 9 :: (List.replicate (m - (k + 1)) 9 ++ τ) := by
      rw [show m - k = (m - (k + 1)) + 1 by omega, List.replicate_succ, List.cons_append]
    have hh : (List.replicate (m - k) 9 ++ τ).headD (-1) = 9 := by rw [es]; rfl
    have ls2 : (List.replicate (m - (k + 1)) 9 ++ τ).length = m - (k + 1) + τ.length := by rw [List.length_append, List.length_replicate]
    refine je_aload0 (pc := 0) d12038_0 rfl ?_
    refine ju_callv (pc := 1) (as := []) d12038_1 jL_12_291 jM_Mo_top rfl (by decide) (sK253 j2.1.1.1) rfl (by exact Nat.le_of_ble_eq_true rfl) (t_Mo_top d j2 (by omega)) (fun r1 h1 q1 => ?_)
    obtain ⟨rfl, e1⟩ := q1
    obtain rfl := e1.symm
    refine je_iload1 (pc := 4) d12038_4 rfl ?_
    refine je_icne (pc := 5) 54 d12038_5 (by decide) (fun c5 => absurd c5 (fun z => z hh)) (fun c5 => ?_)
    refine je_aload0 (pc := 8) d12038_8 rfl ?_
    refine ju_geti (pc := 9) d12038_9 jF_12_214 rfl (sK253 j2.1.1.1) ?_
    refine ju_eqi (v := (adN (-13) k s).1) j2.1.2.1 ?_
    refine je_ifne (pc := 12) 54 d12038_12 (by decide) (fun c12 => absurd c12 (fun z => z f1)) (fun c12 => ?_)
    refine je_aload0 (pc := 15) d12038_15 rfl ?_
    refine je_iload1 (pc := 16) d12038_16 rfl ?_
    refine je_iconst (pc := 17) (v := 0) d12038_17 rfl ?_
    refine ju_callv (pc := 18) (as := [_, _]) d12038_18 jL_12_269 jM_Mo_entry rfl (by decide) (sK253 j2.1.1.1) rfl (by exact Nat.le_of_ble_eq_true rfl) (t_Mo_entry d (so := 9) (nu := 0) j2.1 hsl (fun _ => by rw [(aN_1 (x := (-13)) (m := k) f).2.2.2]; omega) (fun _ => Or.inr (Or.inr (by decide)))) (fun r18 h18 q18 => ?_)
    obtain ⟨rfl, F1, C1⟩ := q18
    rw [en_9.1] at C1
    have B1 := j2.F F1 C1
    rw [es] at B1
    refine je_aload0 (pc := 21) d12038_21 rfl ?_
    refine je_dup (pc := 22) d12038_22 rfl ?_
    refine ju_geti (pc := 23) d12038_23 jF_12_285 rfl (sK253 B1.1.1.1) ?_
    refine ju_eqi (v := nI ((List.replicate (m - (k + 1)) 9 ++ τ).length + 1)) (B1.2.1.trans (congrArg nI List.length_cons)) ?_
    refine je_iconst (pc := 26) (v := 1) d12038_26 rfl ?_
    refine je_isub (pc := 27) d12038_27 ?_
    refine ju_eqi (v := nI (List.replicate (m - (k + 1)) 9 ++ τ).length) (nI_p1 _) ?_
    refine ju_puti (pc := 28) d12038_28 jF_12_285 rfl (sK253 B1.1.1.1) ?_
    obtain ⟨B2, F2⟩ := mt_pp B1
    refine je_aload0 (pc := 31) d12038_31 rfl ?_
    refine je_dup (pc := 32) d12038_32 rfl ?_
    refine ju_geti (pc := 33) d12038_33 jF_12_288 rfl (sK253 B1.1.1.1.wI) ?_
    refine ju_eqi (v := nI (dp - k)) B2.2.2.2 ?_
    refine je_iload1 (pc := 36) d12038_36 rfl ?_
    refine je_bipush (pc := 37) (v := 9) d12038_37 rfl ?_
    refine jn_icne (pc := 39) (a := 9) (b := 9) 46 d12038_39 (by decide) (by omega) (by omega) (fun c39 => by exfalso; omega) (fun c39 => ?_)
    refine je_iconst (pc := 42) (v := 1) d12038_42 rfl ?_
    refine je_goto (pc := 43) 47 d12038_43 (by decide) ?_
    refine je_isub (pc := 47) d12038_47 ?_
    refine ju_eqi (v := nI (((dp - k)) - 1)) (pk_sub (a := ((dp - k))) (b := 1) (by omega)) ?_
    refine ju_puti (pc := 48) d12038_48 jF_12_288 rfl (sK253 B1.1.1.1.wI) ?_
    refine je_goto (pc := 51) 0 d12038_51 (by decide) ?_
    rw [show dp - k - 1 = dp - (k + 1) by omega]
    have B3 := mt_dp (dp - (k + 1)) B2
    refine kk () _ ⟨((j1.tr F1.T).tr F2).tr B3.2, ?_⟩
    rw [aN_s]
    exact B3.1
  · obtain ⟨j1, j2⟩ := e
    have ls : (List.replicate (m - m) 9 ++ τ).length = m - m + τ.length := by rw [List.length_append, List.length_replicate]
    have f1 := (aN_1 (x := (-13)) (m := m) f).1
    have hh : (List.replicate (m - m) 9 ++ τ).headD (-1) = τ.headD (-1) := by rw [show m - m = 0 by omega]; rfl
    refine je_aload0 (pc := 0) d12038_0 rfl ?_
    refine ju_callv (pc := 1) (as := []) d12038_1 jL_12_291 jM_Mo_top rfl (by decide) (sK253 j2.1.1.1) rfl (by exact Nat.le_of_ble_eq_true rfl) (t_Mo_top d j2 (by omega)) (fun r1 h1 q1 => ?_)
    obtain ⟨rfl, e1⟩ := q1
    obtain rfl := e1.symm
    refine je_iload1 (pc := 4) d12038_4 rfl ?_
    refine je_icne (pc := 5) 54 d12038_5 (by decide) (fun c5 => ?_) (fun c5 => absurd c5 (fun z => ht (by rw [← hh]; exact z)))
    refine je_ret (pc := 54) d12038_54 rfl ?_
    rw [show m - m = 0 by omega] at j2
    exact ⟨rfl, j1, j2⟩
set_option maxHeartbeats 2000000 in
theorem t_Mo_answers_10 (d : Nat) {bc bs : Nat} {h : jx_H} {N sl p dp m : Nat} {U : Nat → Int32} {s : RS} {τ : List Int32} (B : mtP h N sl U p s (List.replicate m 10 ++ τ) dp) (f : s.1 = 0) (hsl : sl < 6) (L : m + τ.length ≤ 400) (LE : s.2.2.2.length + m < 300) (ht : ¬ τ.headD (-1) = 10) : jx_Tr (d + 2) bc bs 12038 [.ref 253, .int 10] h (fun r h' => r = none ∧ moT sl h h' ∧ mtP h' N sl U p (adN (-11) m s) τ dp) := by
  refine jx_tr jM_Mo_answers rfl rfl (lv := [some (.ref 253), some (.int 10)]) rfl ?_
  refine je_loop (σ := Unit) (m) (fun k xx => [some (.ref 253), some (.int 10)]) (fun k _ h' => moT sl h h' ∧ mtP h' N sl U p (adN (-11) k s) (List.replicate (m - k) 10 ++ τ) dp) (fun k xx h' hk e kk => ?_) (fun xx h' e => ?_) (0) () h (by omega) ⟨moT.rf, B⟩
  · obtain ⟨j1, j2⟩ := e
    have ls : (List.replicate (m - k) 10 ++ τ).length = m - k + τ.length := by rw [List.length_append, List.length_replicate]
    have f1 := (aN_1 (x := (-11)) (m := k) f).1
    have es : (List.replicate (m - k) 10 ++ τ) = 10 :: (List.replicate (m - (k + 1)) 10 ++ τ) := by
      rw [show m - k = (m - (k + 1)) + 1 by omega, List.replicate_succ, List.cons_append]
    have hh : (List.replicate (m - k) 10 ++ τ).headD (-1) = 10 := by rw [es]; rfl
    have ls2 : (List.replicate (m - (k + 1)) 10 ++ τ).length = m - (k + 1) + τ.length := by rw [List.length_append, List.length_replicate]
    refine je_aload0 (pc := 0) d12038_0 rfl ?_
    refine ju_callv (pc := 1) (as := []) d12038_1 jL_12_291 jM_Mo_top rfl (by decide) (sK253 j2.1.1.1) rfl (by exact Nat.le_of_ble_eq_true rfl) (t_Mo_top d j2 (by omega)) (fun r1 h1 q1 => ?_)
    obtain ⟨rfl, e1⟩ := q1
    obtain rfl := e1.symm
    refine je_iload1 (pc := 4) d12038_4 rfl ?_
    refine je_icne (pc := 5) 54 d12038_5 (by decide) (fun c5 => absurd c5 (fun z => z hh)) (fun c5 => ?_)
    refine je_aload0 (pc := 8) d12038_8 rfl ?_
    refine ju_geti (pc := 9) d12038_9 jF_12_214 rfl (sK253 j2.1.1.1) ?_
    refine ju_eqi (v := (adN (-11) k s).1) j2.1.2.1 ?_
    refine je_ifne (pc := 12) 54 d12038_12 (by decide) (fun c12 => absurd c12 (fun z => z f1)) (fun c12 => ?_)
    refine je_aload0 (pc := 15) d12038_15 rfl ?_
    refine je_iload1 (pc := 16) d12038_16 rfl ?_
    refine je_iconst (pc := 17) (v := 0) d12038_17 rfl ?_
    refine ju_callv (pc := 18) (as := [_, _]) d12038_18 jL_12_269 jM_Mo_entry rfl (by decide) (sK253 j2.1.1.1) rfl (by exact Nat.le_of_ble_eq_true rfl) (t_Mo_entry d (so := 10) (nu := 0) j2.1 hsl (fun _ => by rw [(aN_1 (x := (-11)) (m := k) f).2.2.2]; omega) (fun _ => Or.inr (Or.inr (by decide)))) (fun r18 h18 q18 => ?_)
    obtain ⟨rfl, F1, C1⟩ := q18
    rw [en_9.2.1] at C1
    have B1 := j2.F F1 C1
    rw [es] at B1
    refine je_aload0 (pc := 21) d12038_21 rfl ?_
    refine je_dup (pc := 22) d12038_22 rfl ?_
    refine ju_geti (pc := 23) d12038_23 jF_12_285 rfl (sK253 B1.1.1.1) ?_
    refine ju_eqi (v := nI ((List.replicate (m - (k + 1)) 10 ++ τ).length + 1)) (B1.2.1.trans (congrArg nI List.length_cons)) ?_
    refine je_iconst (pc := 26) (v := 1) d12038_26 rfl ?_
    refine je_isub (pc := 27) d12038_27 ?_
    refine ju_eqi (v := nI (List.replicate (m - (k + 1)) 10 ++ τ).length) (nI_p1 _) ?_
    refine ju_puti (pc := 28) d12038_28 jF_12_285 rfl (sK253 B1.1.1.1) ?_
    obtain ⟨B2, F2⟩ := mt_pp B1
    refine je_aload0 (pc := 31) d12038_31 rfl ?_
    refine je_dup (pc := 32) d12038_32 rfl ?_
    refine ju_geti (pc := 33) d12038_33 jF_12_288 rfl (sK253 B1.1.1.1.wI) ?_
    refine ju_eqi (v := nI dp) B2.2.2.2 ?_
    refine je_iload1 (pc := 36) d12038_36 rfl ?_
    refine je_bipush (pc := 37) (v := 9) d12038_37 rfl ?_
    refine jn_icne (pc := 39) (a := 10) (b := 9) 46 d12038_39 (by decide) (by omega) (by omega) (fun c39 => ?_) (fun c39 => by exfalso; omega)
    refine je_iconst (pc := 46) (v := 0) d12038_46 rfl ?_
    refine je_isub (pc := 47) d12038_47 ?_
    refine ju_eqi (v := nI ((dp) - 0)) (pk_sub (a := (dp)) (b := 0) (by omega)) ?_
    refine ju_puti (pc := 48) d12038_48 jF_12_288 rfl (sK253 B1.1.1.1.wI) ?_
    refine je_goto (pc := 51) 0 d12038_51 (by decide) ?_
    rw [show dp - 0 = dp by omega]
    have B3 := mt_dp dp B2
    refine kk () _ ⟨((j1.tr F1.T).tr F2).tr B3.2, ?_⟩
    rw [aN_s]
    exact B3.1
  · obtain ⟨j1, j2⟩ := e
    have ls : (List.replicate (m - m) 10 ++ τ).length = m - m + τ.length := by rw [List.length_append, List.length_replicate]
    have f1 := (aN_1 (x := (-11)) (m := m) f).1
    have hh : (List.replicate (m - m) 10 ++ τ).headD (-1) = τ.headD (-1) := by rw [show m - m = 0 by omega]; rfl
    refine je_aload0 (pc := 0) d12038_0 rfl ?_
    refine ju_callv (pc := 1) (as := []) d12038_1 jL_12_291 jM_Mo_top rfl (by decide) (sK253 j2.1.1.1) rfl (by exact Nat.le_of_ble_eq_true rfl) (t_Mo_top d j2 (by omega)) (fun r1 h1 q1 => ?_)
    obtain ⟨rfl, e1⟩ := q1
    obtain rfl := e1.symm
    refine je_iload1 (pc := 4) d12038_4 rfl ?_
    refine je_icne (pc := 5) 54 d12038_5 (by decide) (fun c5 => ?_) (fun c5 => absurd c5 (fun z => ht (by rw [← hh]; exact z)))
    refine je_ret (pc := 54) d12038_54 rfl ?_
    rw [show m - m = 0 by omega] at j2
    exact ⟨rfl, j1, j2⟩
set_option maxHeartbeats 2000000 in
theorem t_Mo_answers_11 (d : Nat) {bc bs : Nat} {h : jx_H} {N sl p dp m : Nat} {U : Nat → Int32} {s : RS} {τ : List Int32} (B : mtP h N sl U p s (List.replicate m 11 ++ τ) dp) (f : s.1 = 0) (hsl : sl < 6) (L : m + τ.length ≤ 400) (LE : s.2.2.2.length + m < 300) (ht : ¬ τ.headD (-1) = 11) : jx_Tr (d + 2) bc bs 12038 [.ref 253, .int 11] h (fun r h' => r = none ∧ moT sl h h' ∧ mtP h' N sl U p (adN (-12) m s) τ dp) := by
  refine jx_tr jM_Mo_answers rfl rfl (lv := [some (.ref 253), some (.int 11)]) rfl ?_
  refine je_loop (σ := Unit) (m) (fun k xx => [some (.ref 253), some (.int 11)]) (fun k _ h' => moT sl h h' ∧ mtP h' N sl U p (adN (-12) k s) (List.replicate (m - k) 11 ++ τ) dp) (fun k xx h' hk e kk => ?_) (fun xx h' e => ?_) (0) () h (by omega) ⟨moT.rf, B⟩
  · obtain ⟨j1, j2⟩ := e
    have ls : (List.replicate (m - k) 11 ++ τ).length = m - k + τ.length := by rw [List.length_append, List.length_replicate]
    have f1 := (aN_1 (x := (-12)) (m := k) f).1
    have es : (List.replicate (m - k) 11 ++ τ) = 11 :: (List.replicate (m - (k + 1)) 11 ++ τ) := by
      rw [show m - k = (m - (k + 1)) + 1 by omega, List.replicate_succ, List.cons_append]
    have hh : (List.replicate (m - k) 11 ++ τ).headD (-1) = 11 := by rw [es]; rfl
    have ls2 : (List.replicate (m - (k + 1)) 11 ++ τ).length = m - (k + 1) + τ.length := by rw [List.length_append, List.length_replicate]
    refine je_aload0 (pc := 0) d12038_0 rfl ?_
    refine ju_callv (pc := 1) (as := []) d12038_1 jL_12_291 jM_Mo_top rfl (by decide) (sK253 j2.1.1.1) rfl (by exact Nat.le_of_ble_eq_true rfl) (t_Mo_top d j2 (by omega)) (fun r1 h1 q1 => ?_)
    obtain ⟨rfl, e1⟩ := q1
    obtain rfl := e1.symm
    refine je_iload1 (pc := 4) d12038_4 rfl ?_
    refine je_icne (pc := 5) 54 d12038_5 (by decide) (fun c5 => absurd c5 (fun z => z hh)) (fun c5 => ?_)
    refine je_aload0 (pc := 8) d12038_8 rfl ?_
    refine ju_geti (pc := 9) d12038_9 jF_12_214 rfl (sK253 j2.1.1.1) ?_
    refine ju_eqi (v := (adN (-12) k s).1) j2.1.2.1 ?_
    refine je_ifne (pc := 12) 54 d12038_12 (by decide) (fun c12 => absurd c12 (fun z => z f1)) (fun c12 => ?_)
    refine je_aload0 (pc := 15) d12038_15 rfl ?_
    refine je_iload1 (pc := 16) d12038_16 rfl ?_
    refine je_iconst (pc := 17) (v := 0) d12038_17 rfl ?_
    refine ju_callv (pc := 18) (as := [_, _]) d12038_18 jL_12_269 jM_Mo_entry rfl (by decide) (sK253 j2.1.1.1) rfl (by exact Nat.le_of_ble_eq_true rfl) (t_Mo_entry d (so := 11) (nu := 0) j2.1 hsl (fun _ => by rw [(aN_1 (x := (-12)) (m := k) f).2.2.2]; omega) (fun _ => Or.inr (Or.inr (by decide)))) (fun r18 h18 q18 => ?_)
    obtain ⟨rfl, F1, C1⟩ := q18
    rw [en_9.2.2] at C1
    have B1 := j2.F F1 C1
    rw [es] at B1
    refine je_aload0 (pc := 21) d12038_21 rfl ?_
    refine je_dup (pc := 22) d12038_22 rfl ?_
    refine ju_geti (pc := 23) d12038_23 jF_12_285 rfl (sK253 B1.1.1.1) ?_
    refine ju_eqi (v := nI ((List.replicate (m - (k + 1)) 11 ++ τ).length + 1)) (B1.2.1.trans (congrArg nI List.length_cons)) ?_
    refine je_iconst (pc := 26) (v := 1) d12038_26 rfl ?_
    refine je_isub (pc := 27) d12038_27 ?_
    refine ju_eqi (v := nI (List.replicate (m - (k + 1)) 11 ++ τ).length) (nI_p1 _) ?_
    refine ju_puti (pc := 28) d12038_28 jF_12_285 rfl (sK253 B1.1.1.1) ?_
    obtain ⟨B2, F2⟩ := mt_pp B1
    refine je_aload0 (pc := 31) d12038_31 rfl ?_
    refine je_dup (pc := 32) d12038_32 rfl ?_
    refine ju_geti (pc := 33) d12038_33 jF_12_288 rfl (sK253 B1.1.1.1.wI) ?_
    refine ju_eqi (v := nI dp) B2.2.2.2 ?_
    refine je_iload1 (pc := 36) d12038_36 rfl ?_
    refine je_bipush (pc := 37) (v := 9) d12038_37 rfl ?_
    refine jn_icne (pc := 39) (a := 11) (b := 9) 46 d12038_39 (by decide) (by omega) (by omega) (fun c39 => ?_) (fun c39 => by exfalso; omega)
    refine je_iconst (pc := 46) (v := 0) d12038_46 rfl ?_
    refine je_isub (pc := 47) d12038_47 ?_
    refine ju_eqi (v := nI ((dp) - 0)) (pk_sub (a := (dp)) (b := 0) (by omega)) ?_
    refine ju_puti (pc := 48) d12038_48 jF_12_288 rfl (sK253 B1.1.1.1.wI) ?_
    refine je_goto (pc := 51) 0 d12038_51 (by decide) ?_
    rw [show dp - 0 = dp by omega]
    have B3 := mt_dp dp B2
    refine kk () _ ⟨((j1.tr F1.T).tr F2).tr B3.2, ?_⟩
    rw [aN_s]
    exact B3.1
  · obtain ⟨j1, j2⟩ := e
    have ls : (List.replicate (m - m) 11 ++ τ).length = m - m + τ.length := by rw [List.length_append, List.length_replicate]
    have f1 := (aN_1 (x := (-12)) (m := m) f).1
    have hh : (List.replicate (m - m) 11 ++ τ).headD (-1) = τ.headD (-1) := by rw [show m - m = 0 by omega]; rfl
    refine je_aload0 (pc := 0) d12038_0 rfl ?_
    refine ju_callv (pc := 1) (as := []) d12038_1 jL_12_291 jM_Mo_top rfl (by decide) (sK253 j2.1.1.1) rfl (by exact Nat.le_of_ble_eq_true rfl) (t_Mo_top d j2 (by omega)) (fun r1 h1 q1 => ?_)
    obtain ⟨rfl, e1⟩ := q1
    obtain rfl := e1.symm
    refine je_iload1 (pc := 4) d12038_4 rfl ?_
    refine je_icne (pc := 5) 54 d12038_5 (by decide) (fun c5 => ?_) (fun c5 => absurd c5 (fun z => ht (by rw [← hh]; exact z)))
    refine je_ret (pc := 54) d12038_54 rfl ?_
    rw [show m - m = 0 by omega] at j2
    exact ⟨rfl, j1, j2⟩
