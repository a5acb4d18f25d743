/-! a rule told: the model takes signs -/
/-- where the model stands -/
def mrP (h : jx_H) (N k : Nat) (U : Nat → Int32) (p : Nat) (s : RS) : Prop := (jx_St h ∧ mT h = U ∧ (∀ j, j < N → (h.2.1 280 j).toInt8.toInt32 = h.2.1 280 j) ∧ h.2.1 253 27 = nI N ∧ h.2.1 253 30 = nI k ∧ h.2.1 253 36 = 12) ∧ h.2.1 253 29 = s.1 ∧ h.2.1 253 28 = nI p ∧ (s.1 = 0 → h.2.1 253 34 = nI s.2.2.1 ∧ h.2.1 253 32 = nI s.2.2.2.length ∧ ∀ j, j < s.2.2.2.length → okS (h.2.1 281 (300 * k + j)) (h.2.1 282 (300 * k + j)) ∧ encR (h.2.1 281 (300 * k + j)) (h.2.1 282 (300 * k + j)) = s.2.2.2.getD j 0)
def moF (k : Nat) (h h' : jx_H) : Prop := fC (fun b => b = 253 ∨ b = 281 ∨ b = 282) h h' ∧ (∀ j, j ≠ 28 → j ≠ 29 → j ≠ 32 → j ≠ 34 → h'.2.1 253 j = h.2.1 253 j) ∧ ∀ i, i < 300 * k → h'.2.1 281 i = h.2.1 281 i ∧ h'.2.1 282 i = h.2.1 282 i
theorem moF.rf {k : Nat} {h : jx_H} : moF k h h := ⟨fC.rf, fun _ _ _ _ _ => rfl, fun _ _ => ⟨rfl, rfl⟩⟩
theorem moF.tr {k : Nat} {h1 h2 h3 : jx_H} (x : moF k h1 h2) (y : moF k h2 h3) : moF k h1 h3 := ⟨x.1.tr y.1, fun j a b c e => (y.2.1 j a b c e).trans (x.2.1 j a b c e), fun i hi => ⟨((y.2.2 i hi).1).trans (x.2.2 i hi).1, ((y.2.2 i hi).2).trans (x.2.2 i hi).2⟩⟩
theorem moF.w {k j : Nat} {h : jx_H} {v : Int32} (hj : j = 28 ∨ j = 29 ∨ j = 32 ∨ j = 34) : moF k h (jx_wI h 253 j v) := ⟨fC.rf.wI (Or.inl rfl), fun i a b c e => by rw [wI_at, jx_up_ne _ _ (by omega)], fun i _ => by rw [wI_ne _ _ _ (by decide), wI_ne _ _ _ (by decide)]; exact ⟨rfl, rfl⟩⟩
theorem mrP.ff {h : jx_H} {N k p : Nat} {U : Nat → Int32} {s s' : RS} (B : mrP h N k U p s) (f : ¬ s.1 = 0) (e : s'.1 = s.1) : mrP h N k U p s' := ⟨B.1, B.2.1.trans e.symm, B.2.2.1, fun z => absurd (e.symm.trans z) f⟩
theorem mrP.e2 {h : jx_H} {N k p : Nat} {U : Nat → Int32} {s s' : RS} (B : mrP h N k U p s) (e : s'.1 = s.1) (e2 : s.1 = 0 → s'.2.2 = s.2.2) : mrP h N k U p s' := ⟨B.1, B.2.1.trans e.symm, B.2.2.1, fun z => by
  have f := e.symm.trans z
  rw [e2 f]; exact B.2.2.2 f⟩
/-- a write into one of the model's own places -/
theorem mrP.w0 {h : jx_H} {N k p j : Nat} {U : Nat → Int32} {s : RS} (B : mrP h N k U p s) (v : Int32) (hj : j = 28 ∨ j = 29 ∨ j = 32 ∨ j = 34) : jx_St (jx_wI h 253 j v) ∧ mT (jx_wI h 253 j v) = U ∧ (∀ i, i < N → ((jx_wI h 253 j v).2.1 280 i).toInt8.toInt32 = (jx_wI h 253 j v).2.1 280 i) ∧ (jx_wI h 253 j v).2.1 253 27 = nI N ∧ (jx_wI h 253 j v).2.1 253 30 = nI k ∧ (jx_wI h 253 j v).2.1 253 36 = 12 := by
  obtain ⟨⟨a1, a2, a3, a4, a5, a6⟩, -⟩ := B
  refine ⟨a1.wI, ?_, ?_, ?_, ?_, ?_⟩
  · rw [← a2]; funext i; unfold mT; rw [wI_ne _ _ _ (by decide)]
  · rw [wI_ne _ _ _ (by decide)]; exact a3
  · rw [wI_at, jx_up_ne _ _ (by omega)]; exact a4
  · rw [wI_at, jx_up_ne _ _ (by omega)]; exact a5
  · rw [wI_at, jx_up_ne _ _ (by omega)]; exact a6
theorem mrP.p {h : jx_H} {N k p : Nat} {U : Nat → Int32} {s : RS} (B : mrP h N k U p s) (q : Nat) : mrP (jx_wI h 253 28 (nI q)) N k U q s := by
  refine ⟨B.w0 (nI q) (Or.inl rfl), ?_, ?_, fun f => ?_⟩
  · rw [wI_at, jx_up_ne _ _ (by decide)]; exact B.2.1
  · rw [wI_at, jx_up_self]
  · rw [wI_ne _ _ _ (show 281 ≠ 253 by decide), wI_ne _ _ _ (show 282 ≠ 253 by decide), wI_at, jx_up_ne _ _ (by decide), jx_up_ne _ _ (by decide)]; exact B.2.2.2 f
def flP (q c : Nat) (s : RS) : RS := if s.1 = 0 then (fltI q c, s.2) else s
def cnP (q : Nat) (s : RS) : RS := if s.1 = 0 then (if 60 ≤ s.2.2.1 then (fltI q 3, s.2) else (s.1, s.2.1, s.2.2.1 + 1, s.2.2.2)) else s
theorem fp_nz {q c : Nat} {s : RS} (hq : q ≤ 400) (hc : c ≤ 4) : ¬ (flP q c s).1 = 0 := by
  unfold flP
  by_cases f : s.1 = 0
  · rw [if_pos f]; exact flt_nz hq hc
  · rw [if_neg f]; exact f
theorem cp_E {q : Nat} {s : RS} : (cnP q s).2.2.2 = s.2.2.2 ∧ (cnP q s).2.1 = s.2.1 := by
  unfold cnP
  split
  · split
    · exact ⟨rfl, rfl⟩
    · exact ⟨rfl, rfl⟩
  · exact ⟨rfl, rfl⟩
theorem cp_0 {q : Nat} {s : RS} (hq : q ≤ 400) (h : (cnP q s).1 = 0) : s.1 = 0 ∧ s.2.2.1 < 60 ∧ (cnP q s).2.2.1 = s.2.2.1 + 1 := by
  unfold cnP at h ⊢
  by_cases f : s.1 = 0
  · rw [if_pos f] at h ⊢
    by_cases c : 60 ≤ s.2.2.1
    · rw [if_pos c] at h; exact absurd h (flt_nz hq (by decide))
    · rw [if_neg c]; exact ⟨f, by omega, rfl⟩
  · rw [if_neg f] at h; exact absurd h f
theorem t_Mo_blanks_R (d : Nat) {bc bs : Nat} {h : jx_H} {N k p : Nat} {U : Nat → Int32} {s : RS} (B : mrP h N k U p s) (hN : N ≤ 400) (hp : p ≤ 1000) : jx_Tr (d + 2) bc bs 12008 [.ref 253] h (fun r h' => r = none ∧ moF k h h' ∧ mrP h' N k U (skB U N p) s) := by
  obtain ⟨⟨a1, a2, a3, a4, a5, a6⟩, b1, b2, b3⟩ := id B
  refine (t_Mo_blanks d (N := N) (p := p) a1 a4 b2 hN hp).mono (fun r h' e => ?_)
  obtain ⟨e0, f1, g1, p1⟩ := e
  rw [a2] at p1
  have e1 : h'.2.1 281 = h.2.1 281 := f1.2 281 (by decide)
  have e2 : h'.2.1 282 = h.2.1 282 := f1.2 282 (by decide)
  refine ⟨e0, ⟨f1.mo (fun b z => Or.inl z), fun j x1 x2 x3 x4 => g1 j x1, fun i _ => by rw [e1, e2]; exact ⟨rfl, rfl⟩⟩, ⟨f1.St a1, (mT_e f1.mn).trans a2, fun j hj => by rw [f1.2 280 (by decide)]; exact a3 j hj, (g1 27 (by decide)).trans a4, (g1 30 (by decide)).trans a5, (g1 36 (by decide)).trans a6⟩, (g1 29 (by decide)).trans b1, p1, fun f => ?_⟩
  rw [g1 34 (by decide), g1 32 (by decide), e1, e2]
  exact b3 f
theorem mr_fl {h : jx_H} {N k p q c : Nat} {U : Nat → Int32} {s : RS} (B : mrP h N k U p s) (hq : q ≤ 400) (hc : c ≤ 4) : mrP (jx_wI h 253 29 (if h.2.1 253 29 = 0 then fltI q c else h.2.1 253 29)) N k U p (flP q c s) := by
  refine ⟨B.w0 _ (Or.inr (Or.inl rfl)), ?_, ?_, fun f => absurd f (fp_nz hq hc)⟩
  · rw [wI_at, jx_up_self, B.2.1]
    unfold flP
    split
    · rfl
    · rfl
  · rw [wI_at, jx_up_ne _ _ (by decide)]; exact B.2.2.1
theorem t_Mo_fails_R (d : Nat) {bc bs : Nat} {h : jx_H} {N k p q c : Nat} {U : Nat → Int32} {s : RS} (B : mrP h N k U p s) (hq : q ≤ 400) (hc : c ≤ 4) : jx_Tr (d + 1) bc bs 12012 [.ref 253, .int (nI c), .int (nI q)] h (fun r h' => r = none ∧ moF k h h' ∧ mrP h' N k U p (flP q c s)) :=
  (t_Mo_fails d (q := q) (c := c) B.1.1 (by omega) hc).mono (fun r h' e => ⟨e.1, by rw [e.2]; exact moF.w (Or.inr (Or.inl rfl)), by rw [e.2]; exact mr_fl B hq hc⟩)
theorem t_Mo_sign_R (d : Nat) {bc bs : Nat} {h : jx_H} {N k p : Nat} {U : Nat → Int32} {s : RS} (B : mrP h N k U p s) (hN : N ≤ 400) (hp : p ≤ 1000) : jx_Tr (d + 1) bc bs 12009 [.ref 253] h (fun r h' => r = some (.int (if p < N then U p else -1)) ∧ h' = h) :=
  (t_Mo_sign d (N := N) (p := p) B.1.1 B.1.2.2.2.1 B.2.2.1 hN hp).mono (fun r h' e => ⟨by rw [e.1]; unfold mSg; rw [B.1.2.1], e.2⟩)
theorem t_Mo_isDigit_R (d : Nat) {bc bs : Nat} {h : jx_H} {N k p : Nat} {U : Nat → Int32} {s : RS} (B : mrP h N k U p s) (hN : N ≤ 400) (hp : p ≤ 1000) : jx_Tr (d + 2) bc bs 12017 [.ref 253] h (fun r h' => r = some (.int (b2 (p < N ∧ isDg (U p) = true))) ∧ h' = h) :=
  (t_Mo_isDigit d (N := N) (p := p) B.1.1 B.1.2.2.2.1 B.2.2.1 hN hp).mono (fun r h' e => ⟨by rw [e.1, B.1.2.1], e.2⟩)
theorem t_Mo_stood_R (d : Nat) {bc bs : Nat} {h : jx_H} {N k p e : Nat} {U : Nat → Int32} {s : RS} (he : e < 44) (B : mrP h N k U p s) (hN : N ≤ 400) (hp : p ≤ N) : jx_Tr (d + 5) bc bs 12011 [.ref 253, .ref (1000000 + e)] h (fun r h' => r = some (.int (b2 (stW U N p (wdO e)))) ∧ h' = h) :=
  (t_Mo_stood d (N := N) (p := p) he B.1.1 B.1.2.2.2.1 B.2.2.1 hN hp B.1.2.2.1).mono (fun r h' e => ⟨by rw [e.1, B.1.2.1], e.2⟩)
theorem mr_cn {h : jx_H} {N k p q : Nat} {U : Nat → Int32} {s : RS} (B : mrP h N k U p s) (v : Int32) (hv : s.1 = 0 → v = nI (s.2.2.1 + 1)) : mrP (jx_wI h 253 34 v) N k U p (s.1, s.2.1, s.2.2.1 + 1, s.2.2.2) := by
  refine ⟨B.w0 v (Or.inr (Or.inr (Or.inr rfl))), ?_, ?_, fun f => ?_⟩
  · rw [wI_at, jx_up_ne _ _ (by decide)]; exact B.2.1
  · rw [wI_at, jx_up_ne _ _ (by decide)]; exact B.2.2.1
  · obtain ⟨c1, c2, c3⟩ := B.2.2.2 f
    rw [wI_ne _ _ _ (show 281 ≠ 253 by decide), wI_ne _ _ _ (show 282 ≠ 253 by decide), wI_at, jx_up_self, jx_up_ne _ _ (by decide)]
    exact ⟨hv f, c2, c3⟩
theorem eq60 {c : Nat} (h : c ≤ 60) : nI c = 60 ↔ 60 ≤ c := by
  rw [show (60 : Int32) = nI 60 from rfl, nI_eq (by omega) (by decide)]
  omega
set_option maxHeartbeats 2000000 in
theorem t_Mo_isCounted (d : Nat) {bc bs : Nat} {h : jx_H} {N k p q : Nat} {U : Nat → Int32} {s : RS} (B : mrP h N k U p s) (hq : q ≤ 400) (hc : s.1 = 0 → s.2.2.1 ≤ 60) : jx_Tr (d + 2) bc bs 12030 [.ref 253, .int (nI q)] h (fun r h' => r = none ∧ moF k h h' ∧ mrP h' N k U p (cnP q s)) := by
  refine jx_tr jM_Mo_isCounted rfl rfl (lv := [some (.ref 253), some (.int (nI q))]) rfl ?_
  refine je_aload0 (pc := 0) d12030_0 rfl ?_
  refine ju_geti (pc := 1) d12030_1 jF_12_250 rfl (sK253 B.1.1) ?_
  refine je_bipush (pc := 4) (v := 60) d12030_4 rfl ?_
  refine je_icne (pc := 6) 15 d12030_6 (by decide) (fun c6 => ?_) (fun c6 => ?_)
  · refine je_aload0 (pc := 15) d12030_15 rfl ?_
    refine je_dup (pc := 16) d12030_16 rfl ?_
    refine ju_geti (pc := 17) d12030_17 jF_12_250 rfl (sK253 B.1.1) ?_
    refine je_iconst (pc := 20) (v := 1) d12030_20 rfl ?_
    refine je_iadd (pc := 21) d12030_21 ?_
    refine ju_puti (pc := 22) d12030_22 jF_12_250 rfl (sK253 B.1.1) ?_
    refine je_ret (pc := 25) d12030_25 rfl ?_
    have e1 : s.1 = 0 → h.2.1 253 34 + 1 = nI (s.2.2.1 + 1) := fun f => by rw [(B.2.2.2 f).1]; exact nI_1 _
    have B2 := mr_cn (q := q) B (h.2.1 253 34 + 1) e1
    refine ⟨rfl, moF.w (Or.inr (Or.inr (Or.inr rfl))), ?_⟩
    by_cases f : s.1 = 0
    · have n6 : ¬ 60 ≤ s.2.2.1 := fun z => c6 (by rw [(B.2.2.2 f).1]; exact (eq60 (hc f)).mpr z)
      unfold cnP
      rw [if_pos f, if_neg n6]
      exact B2
    · unfold cnP
      rw [if_neg f]
      exact B2.ff f rfl
  · refine je_aload0 (pc := 9) d12030_9 rfl ?_
    refine je_iconst (pc := 10) (v := 3) d12030_10 rfl ?_
    refine je_iload1 (pc := 11) d12030_11 rfl ?_
    refine ju_callv (pc := 12) (as := [_, _]) d12030_12 jL_12_253 jM_Mo_fails rfl (by decide) (sK253 B.1.1) rfl (by exact Nat.le_of_ble_eq_true rfl) (t_Mo_fails d (q := q) (c := 3) B.1.1 (by omega) (by decide)) (fun r12 h12 q12 => ?_)
    obtain ⟨rfl, eb⟩ := q12
    obtain rfl := eb.symm
    have B1 := mr_fl (q := q) (c := 3) B hq (by decide)
    refine je_aload0 (pc := 15) d12030_15 rfl ?_
    refine je_dup (pc := 16) d12030_16 rfl ?_
    refine ju_geti (pc := 17) d12030_17 jF_12_250 rfl (sK253 B.1.1.wI) ?_
    refine je_iconst (pc := 20) (v := 1) d12030_20 rfl ?_
    refine je_iadd (pc := 21) d12030_21 ?_
    refine ju_puti (pc := 22) d12030_22 jF_12_250 rfl (sK253 B.1.1.wI) ?_
    refine je_ret (pc := 25) d12030_25 rfl ?_
    have B2 := mr_cn (q := q) B1 ((jx_wI h 253 29 (if h.2.1 253 29 = 0 then fltI q 3 else h.2.1 253 29)).2.1 253 34 + 1) (fun f => absurd f (fp_nz hq (by decide)))
    refine ⟨rfl, (moF.w (Or.inr (Or.inl rfl))).tr (moF.w (Or.inr (Or.inr (Or.inr rfl)))), ?_⟩
    have nz := fp_nz (q := q) (c := 3) (s := s) hq (by decide)
    refine B2.ff nz ?_
    unfold cnP flP
    by_cases f : s.1 = 0
    · have n6 : 60 ≤ s.2.2.1 := (eq60 (hc f)).mp ((B.2.2.2 f).1.symm.trans c6)
      rw [if_pos f, if_pos n6, if_pos f]
    · rw [if_neg f, if_neg f]
theorem mr_en {h : jx_H} {N k p : Nat} {U : Nat → Int32} {s : RS} {so nu : Int32} (B : mrP h N k U p s) (f : s.1 = 0) (ok : okS so nu) : mrP (jx_wI (jx_wI (jx_wI h 281 (300 * k + s.2.2.2.length) so) 282 (300 * k + s.2.2.2.length) nu) 253 32 (nI (s.2.2.2.length + 1))) N k U p (adR (encR so nu) s) ∧ moF k h (jx_wI (jx_wI (jx_wI h 281 (300 * k + s.2.2.2.length) so) 282 (300 * k + s.2.2.2.length) nu) 253 32 (nI (s.2.2.2.length + 1))) := by
  obtain ⟨⟨a1, a2, a3, a4, a5, a6⟩, b1, b2, b3⟩ := id B
  obtain ⟨c1, c2, c3⟩ := b3 f
  have e253 : ∀ j, j ≠ 32 → (jx_wI (jx_wI (jx_wI h 281 (300 * k + s.2.2.2.length) so) 282 (300 * k + s.2.2.2.length) nu) 253 32 (nI (s.2.2.2.length + 1))).2.1 253 j = h.2.1 253 j := fun j hj => by rw [wI_at, jx_up_ne _ _ hj, wI_ne _ _ _ (by decide), wI_ne _ _ _ (by decide)]
  have e32 : (jx_wI (jx_wI (jx_wI h 281 (300 * k + s.2.2.2.length) so) 282 (300 * k + s.2.2.2.length) nu) 253 32 (nI (s.2.2.2.length + 1))).2.1 253 32 = nI (s.2.2.2.length + 1) := by rw [wI_at, jx_up_self]
  have e280 : (jx_wI (jx_wI (jx_wI h 281 (300 * k + s.2.2.2.length) so) 282 (300 * k + s.2.2.2.length) nu) 253 32 (nI (s.2.2.2.length + 1))).2.1 280 = h.2.1 280 := by rw [wI_ne _ _ _ (by decide), wI_ne _ _ _ (by decide), wI_ne _ _ _ (by decide)]
  have e281 : (jx_wI (jx_wI (jx_wI h 281 (300 * k + s.2.2.2.length) so) 282 (300 * k + s.2.2.2.length) nu) 253 32 (nI (s.2.2.2.length + 1))).2.1 281 = jx_up (h.2.1 281) (300 * k + s.2.2.2.length) so := by rw [wI_ne _ _ _ (by decide), wI_ne _ _ _ (by decide), wI_at]
  have e282 : (jx_wI (jx_wI (jx_wI h 281 (300 * k + s.2.2.2.length) so) 282 (300 * k + s.2.2.2.length) nu) 253 32 (nI (s.2.2.2.length + 1))).2.1 282 = jx_up (h.2.1 282) (300 * k + s.2.2.2.length) nu := by rw [wI_ne _ _ _ (by decide), wI_at, wI_ne _ _ _ (by decide)]
  have F : fC (fun b => b = 253 ∨ b = 281 ∨ b = 282) h (jx_wI (jx_wI (jx_wI h 281 (300 * k + s.2.2.2.length) so) 282 (300 * k + s.2.2.2.length) nu) 253 32 (nI (s.2.2.2.length + 1))) := ((fC.rf.wI (Or.inr (Or.inl rfl))).wI (Or.inr (Or.inr rfl))).wI (Or.inl rfl)
  generalize jx_wI (jx_wI (jx_wI h 281 (300 * k + s.2.2.2.length) so) 282 (300 * k + s.2.2.2.length) nu) 253 32 (nI (s.2.2.2.length + 1)) = h' at e253 e32 e280 e281 e282 F ⊢
  refine ⟨⟨⟨F.St a1, ?_, ?_, ?_, ?_, ?_⟩, ?_, ?_, fun _ => ?_⟩, F, fun j x1 x2 x3 x4 => e253 j x3, fun i hi => ?_⟩
  · rw [← a2]; funext i; unfold mT; rw [e280]
  · rw [e280]; exact a3
  · rw [e253 27 (by decide)]; exact a4
  · rw [e253 30 (by decide)]; exact a5
  · rw [e253 36 (by decide)]; exact a6
  · rw [e253 29 (by decide), ad_o f]; exact b1.trans f
  · rw [e253 28 (by decide)]; exact b2
  · rw [ad_o f, e253 34 (by decide), e32, e281, e282]
    dsimp only
    rw [List.length_append, List.length_singleton]
    refine ⟨c1, rfl, fun j hj => ?_⟩
    by_cases y : j = s.2.2.2.length
    · have e0 := gD_r (A := s.2.2.2) (B := [encR so nu]) (j := 0)
      rw [y, jx_up_self, jx_up_self]
      exact ⟨ok, e0.symm⟩
    · rw [jx_up_ne _ _ (by omega), jx_up_ne _ _ (by omega), gD_l (by omega)]; exact c3 j (by omega)
  · rw [e281, e282, jx_up_ne _ _ (by omega), jx_up_ne _ _ (by omega)]; exact ⟨rfl, rfl⟩
set_option maxHeartbeats 2000000 in
theorem t_Mo_entry (d : Nat) {bc bs : Nat} {h : jx_H} {N k p : Nat} {U : Nat → Int32} {s : RS} {so nu : Int32} (B : mrP h N k U p s) (hk : k < 6) (L : s.1 = 0 → s.2.2.2.length < 300) (ok : s.1 = 0 → okS so nu) : jx_Tr (d + 1) bc bs 12031 [.ref 253, .int so, .int nu] h (fun r h' => r = none ∧ moF k h h' ∧ mrP h' N k U p (adR (encR so nu) s)) := by
  refine jx_tr jM_Mo_entry rfl rfl (lv := [some (.ref 253), some (.int so), some (.int nu)]) rfl ?_
  refine je_aload0 (pc := 0) d12031_0 rfl ?_
  refine ju_geti (pc := 1) d12031_1 jF_12_214 rfl (sK253 B.1.1) ?_
  refine ju_eqi (v := s.1) B.2.1 ?_
  refine je_ifne (pc := 4) 55 d12031_4 (by decide) (fun c4 => ?_) (fun c4 => ?_)
  · refine je_ret (pc := 55) d12031_55 rfl ?_
    rw [ad_f c4]
    exact ⟨rfl, moF.rf, B⟩
  · have f : s.1 = 0 := c4
    have l3 := L f
    obtain ⟨c1, c2, c3⟩ := B.2.2.2 f
    refine je_aload0 (pc := 7) d12031_7 rfl ?_
    refine ju_getr (pc := 8) (b := 281) d12031_8 jF_12_96 rfl (sK253 B.1.1) (sR253_38 B.1.1) ?_
    refine je_sipush (pc := 11) (v := 300) d12031_11 rfl ?_
    refine je_aload0 (pc := 14) d12031_14 rfl ?_
    refine ju_geti (pc := 15) d12031_15 jF_12_244 rfl (sK253 B.1.1) ?_
    refine ju_eqi (v := nI k) B.1.2.2.2.2.1 ?_
    refine je_imul (pc := 18) d12031_18 ?_
    refine ju_eqi (v := nI (300 * (k))) (pk_mul 300 (k)) ?_
    refine je_aload0 (pc := 19) d12031_19 rfl ?_
    refine ju_geti (pc := 20) d12031_20 jF_12_247 rfl (sK253 B.1.1) ?_
    refine ju_eqi (v := nI s.2.2.2.length) c2 ?_
    refine je_iadd (pc := 23) d12031_23 ?_
    refine ju_eqi (v := nI ((300 * (k)) + (s.2.2.2.length))) (nI_add (300 * (k)) (s.2.2.2.length)) ?_
    refine je_iload1 (pc := 24) d12031_24 rfl ?_
    refine ju_iast (pc := 25) (jn := ((300 * (k)) + (s.2.2.2.length))) d12031_25 (sK281 B.1.1) (vp_in_nI (by omega) (by decide)) (nI_clamp (by omega)) ?_
    refine je_aload0 (pc := 26) d12031_26 rfl ?_
    refine ju_getr (pc := 27) (b := 282) d12031_27 jF_12_99 rfl (sK253 B.1.1.wI) (sR253_39 B.1.1.wI) ?_
    refine je_sipush (pc := 30) (v := 300) d12031_30 rfl ?_
    refine je_aload0 (pc := 33) d12031_33 rfl ?_
    refine ju_geti (pc := 34) d12031_34 jF_12_244 rfl (sK253 B.1.1.wI) ?_
    refine ju_eqi (v := nI k) (by rw [wI_ne _ _ _ (by decide)]; exact B.1.2.2.2.2.1) ?_
    refine je_imul (pc := 37) d12031_37 ?_
    refine ju_eqi (v := nI (300 * (k))) (pk_mul 300 (k)) ?_
    refine je_aload0 (pc := 38) d12031_38 rfl ?_
    refine ju_geti (pc := 39) d12031_39 jF_12_247 rfl (sK253 B.1.1.wI) ?_
    refine ju_eqi (v := nI s.2.2.2.length) (by rw [wI_ne _ _ _ (by decide)]; exact c2) ?_
    refine je_iadd (pc := 42) d12031_42 ?_
    refine ju_eqi (v := nI ((300 * (k)) + (s.2.2.2.length))) (nI_add (300 * (k)) (s.2.2.2.length)) ?_
    refine je_iload2 (pc := 43) d12031_43 rfl ?_
    refine ju_iast (pc := 44) (jn := ((300 * (k)) + (s.2.2.2.length))) d12031_44 (sK282 B.1.1.wI) (vp_in_nI (by omega) (by decide)) (nI_clamp (by omega)) ?_
    refine je_aload0 (pc := 45) d12031_45 rfl ?_
    refine je_dup (pc := 46) d12031_46 rfl ?_
    refine ju_geti (pc := 47) d12031_47 jF_12_247 rfl (sK253 B.1.1.wI.wI) ?_
    refine ju_eqi (v := nI s.2.2.2.length) (by rw [wI_ne _ _ _ (by decide), wI_ne _ _ _ (by decide)]; exact c2) ?_
    refine je_iconst (pc := 50) (v := 1) d12031_50 rfl ?_
    refine je_iadd (pc := 51) d12031_51 ?_
    refine ju_eqi (v := nI ((s.2.2.2.length) + 1)) (nI_add (s.2.2.2.length) 1) ?_
    refine ju_puti (pc := 52) d12031_52 jF_12_247 rfl (sK253 B.1.1.wI.wI) ?_
    refine je_ret (pc := 55) d12031_55 rfl ?_
    obtain ⟨y1, y2⟩ := mr_en B f (ok f)
    exact ⟨rfl, y2, y1⟩
