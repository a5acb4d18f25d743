/-! peace: mathematics -/
theorem mh_id {x : Int32} (h : bdI x (-20) 20) : mhold (x + 0) (-20) 20 = x := by
  rw [Int32.add_zero]
  unfold mhold
  have h1 := h.1
  have h2 := h.2
  rw [if_neg (by rw [fa_lt, show (-20 : Int32).toInt = -20 from rfl]; omega), if_neg (by rw [fa_lt, show (20 : Int32).toInt = 20 from rfl]; omega)]
theorem rise_in {k m : Nat} {bk w : Int32} {dg : Nat → Int32} (h : m < k) (c : ¬ bkd bk (nI m)) : riseF k bk w dg m = if 99 < dg m + w then 99 else dg m + w := by
  unfold riseF
  exact if_pos ⟨h, c⟩
theorem sag1_fix {bk : Int32} {k m : Nat} {l : Nat → Int32} (h : bkd bk (nI m)) : sag1 bk k l m = l m := by
  unfold sag1
  split
  · by_cases c : m = k + 1
    · subst c
      rw [jx_up_self]
      unfold ngF
      rw [if_pos h, Int32.sub_zero]
    · rw [jx_up_ne _ _ c]
      by_cases c2 : m = k
      · subst c2
        rw [jx_up_self]
        unfold ngF
        rw [if_pos h, Int32.add_zero]
      · rw [jx_up_ne _ _ c2]
  · rfl
theorem sag1_out {bk : Int32} {k m : Nat} {l : Nat → Int32} (h : m ≠ k) (h2 : m ≠ k + 1) : sag1 bk k l m = l m := by
  unfold sag1
  split
  · rw [jx_up_ne _ _ h2, jx_up_ne _ _ h]
  · rfl
theorem ng_cg {bk bk' : Int32} {m : Nat} {x : Int32} (h : bkd bk (nI m) ↔ bkd bk' (nI m)) : ngF bk m x = ngF bk' m x := by
  unfold ngF
  by_cases c : bkd bk (nI m)
  · rw [if_pos c, if_pos (h.mp c)]
  · rw [if_neg c, if_neg (fun z => c (h.mpr z))]
theorem sag1_in {bk bk' : Int32} {k m : Nat} {l l' : Nat → Int32} (h1 : l k = l' k) (h2 : l (k + 1) = l' (k + 1)) (h3 : l m = l' m) (b1 : bkd bk (nI k) ↔ bkd bk' (nI k)) (b2 : bkd bk (nI (k + 1)) ↔ bkd bk' (nI (k + 1))) : sag1 bk k l m = sag1 bk' k l' m := by
  unfold sag1
  rw [h1, h2, ng_cg b1, ng_cg b2]
  split
  · unfold jx_up
    rw [h3]
  · exact h3
/-- two lands that are alike between two baked miles -/
def AG (mi b e : Nat) (L L' : ML) : Prop :=
  (∀ m, m < mi → b ≤ m + 1 → m ≤ e → L.1 m = L'.1 m) ∧ (∀ m, b ≤ m → m < e → L.2.1 m = L'.2.1 m) ∧ L.2.2.1 = L'.2.2.1 ∧ L.2.2.2.2.2 = L'.2.2.2.2.2 ∧
  (∀ m, b ≤ m → m < e → ¬ bkd L.2.2.2.2.1 (nI m) ∧ ¬ bkd L'.2.2.2.2.1 (nI m)) ∧ ∀ m, m < mi → (m + 1 = b ∨ m = e) → bkd L.2.2.2.2.1 (nI m) ∧ bkd L'.2.2.2.2.1 (nI m)
theorem AG.bk {mi b e m : Nat} {L L' : ML} (q : AG mi b e L L') (h : m < mi) (h1 : b ≤ m + 1) (h2 : m ≤ e) : bkd L.2.2.2.2.1 (nI m) ↔ bkd L'.2.2.2.2.1 (nI m) := by
  by_cases c : b ≤ m ∧ m < e
  · have := q.2.2.2.2.1 m c.1 c.2
    exact ⟨fun z => absurd z this.1, fun z => absurd z this.2⟩
  · have := q.2.2.2.2.2 m h (by omega)
    exact ⟨fun _ => this.2, fun _ => this.1⟩
theorem AG.sag {mi b e : Nat} {L L' : ML} (q : AG mi b e L L') {l l' : Nat → Int32} (hl : ∀ m, m < mi → b ≤ m + 1 → m ≤ e → l m = l' m) : ∀ k, k ≤ mi - 1 → ∀ m, m < mi → b ≤ m + 1 → m ≤ e → sagN L.2.2.2.2.1 k l m = sagN L'.2.2.2.2.1 k l' m
  | 0, _, m, h, h1, h2 => hl m h h1 h2
  | k + 1, hk, m, h, h1, h2 => by
    have ih := AG.sag q hl k (by omega)
    rw [sagN, sagN]
    by_cases c : b ≤ m ∧ m < e
    · by_cases c1 : m = k
      · subst c1
        exact sag1_in (ih m h h1 h2) (ih (m + 1) (by omega) (by omega) (by omega)) (ih m h h1 h2) (q.bk h h1 h2) (q.bk (by omega) (by omega) (by omega))
      · by_cases c2 : m = k + 1
        · subst c2
          exact sag1_in (ih k (by omega) (by omega) (by omega)) (ih (k + 1) h h1 h2) (ih (k + 1) h h1 h2) (q.bk (by omega) (by omega) (by omega)) (q.bk h h1 h2)
        · rw [sag1_out c1 c2, sag1_out c1 c2]; exact ih m h h1 h2
    · have := q.2.2.2.2.2 m h (by omega)
      rw [sag1_fix this.1, sag1_fix this.2]; exact ih m h h1 h2
theorem vM_of {S : MS} {v m : Nat} (hm : m < 1000) (h : S.2.1.2.1 v = nI m) : vM S v = m := by unfold vM; rw [h, nI_clamp (by omega)]
theorem inC_m {S : MS} {l l' : Nat → Int32} {m : Nat} {sd : Int32} {n : Nat} (hm : m < 1000) (h : l m = l' m) : inC S l m sd n = inC S l' m sd n := by
  unfold inC
  refine fa_cnt_cong (fun v _ => ?_)
  rw [decide_eq_decide]
  refine and_congr_right (fun e => ?_)
  unfold sdM
  rw [vM_of hm e, h]
theorem wd_cg {S : MS} {L L' : ML} {w : Int32} {m : Nat} (e1 : L.1 m = L'.1 m) (e2 : L.2.1 m = L'.2.1 m) (e3 : L.2.2.1 m = L'.2.2.1 m) (e4 : L.2.2.2.2.2 = L'.2.2.2.2.2) (e5 : L.1 (m - 1) = L'.1 (m - 1)) (e6 : L.1 (bhd S.1.1 m) = L'.1 (bhd S.1.1 m)) (e7 : inC S L.1 m 0 S.1.2.1 = inC S L'.1 m 0 S.1.2.1) (e8 : inC S L.1 m 1 S.1.2.1 = inC S L'.1 m 1 S.1.2.1) (e9 : b2 (bkd L.2.2.2.2.1 (nI (m - 1))) = b2 (bkd L'.2.2.2.2.1 (nI (m - 1)))) (e0 : b2 (bkd L.2.2.2.2.1 (nI (bhd S.1.1 m))) = b2 (bkd L'.2.2.2.2.1 (nI (bhd S.1.1 m)))) (j : Nat) : wdF S L w m j = wdF S L' w m j := by
  unfold wdF
  rw [e1, e2, e3, e4, e5, e6, e7, e8, e9, e0]
theorem AG.wd {S : MS} {b e m : Nat} {w : Int32} {L L' : ML} (he : e ≤ S.1.1) (hmi : S.1.1 ≤ 10) (q : AG S.1.1 b e L L') (h1 : b ≤ m) (h2 : m < e) : ∀ j, wdF S (risL S w L) w m j = wdF S (risL S w L') w m j := by
  obtain ⟨q1, q2, q3, q4, q5, q6⟩ := id q
  have eb : bhd S.1.1 m < S.1.1 ∧ b ≤ bhd S.1.1 m + 1 ∧ bhd S.1.1 m ≤ e := by unfold bhd; split <;> omega
  have l1 : L.1 (m - 1) = L'.1 (m - 1) := q1 _ (by omega) (by omega) (by omega)
  have l2 : L.1 m = L'.1 m := q1 _ (by omega) (by omega) (by omega)
  have l3 : L.1 (bhd S.1.1 m) = L'.1 (bhd S.1.1 m) := q1 _ eb.1 eb.2.1 eb.2.2
  have d1 : (risL S w L).2.1 m = (risL S w L').2.1 m := by
    show riseF _ _ _ _ m = riseF _ _ _ _ m
    rw [rise_in (by omega) (q5 m h1 h2).1, rise_in (by omega) (q5 m h1 h2).2, q2 m h1 h2]
  exact wd_cg (L := risL S w L) (L' := risL S w L') l2 d1 (by show L.2.2.1 m = L'.2.2.1 m; rw [q3]) q4 l1 l3 (inC_m (by omega) l2) (inC_m (by omega) l2) (b2_c (q.bk (m := m - 1) (by omega) (by omega) (by omega))) (b2_c (q.bk eb.1 eb.2.1 eb.2.2))
theorem AG.night {S : MS} {R : Option MR} {b e : Nat} {w : Int32} {L L' : ML} (he : e ≤ S.1.1) (hmi : S.1.1 ≤ 10) (q : AG S.1.1 b e L L') : AG S.1.1 b e (nightF S R w L) (nightF S R w L') := by
  obtain ⟨q1, q2, q3, q4, q5, q6⟩ := id q
  have dg : ∀ m, b ≤ m → m < e → (risL S w L).2.1 m = (risL S w L').2.1 m := fun m h1 h2 => by
    show riseF _ _ _ _ m = riseF _ _ _ _ m
    rw [rise_in (by omega) (q5 m h1 h2).1, rise_in (by omega) (q5 m h1 h2).2, q2 m h1 h2]
  refine ⟨?_, dg, q3, by show L.2.2.2.2.2 + 1 = L'.2.2.2.2.2 + 1; rw [q4], q5, q6⟩
  show ∀ m, m < S.1.1 → b ≤ m + 1 → m ≤ e → linF S R w L m = linF S R w L' m
  unfold linF
  refine q.sag (fun m h h1 h2 => ?_) _ (Nat.le_refl _)
  unfold moveF
  rw [if_pos h, if_pos h, q1 m h h1 h2]
  have ft : feetF S R (risL S w L) w m = feetF S R (risL S w L') w m := by
    unfold feetF
    by_cases c : b ≤ m ∧ m < e
    · rw [if_neg (show ¬ bkd (risL S w L).2.2.2.2.1 (nI m) from (q5 m c.1 c.2).1), if_neg (show ¬ bkd (risL S w L').2.2.2.2.1 (nI m) from (q5 m c.1 c.2).2)]
      unfold crpF
      match R with
      | none =>
        show mhold ((risL S w L).2.1 m / 20 + S.1.2.2.2 - L.2.2.1 m) (-3) 3 = mhold ((risL S w L').2.1 m / 20 + S.1.2.2.2 - L'.2.2.1 m) (-3) 3
        rw [dg m c.1 c.2, q3]
      | some r =>
        show hold3 (crL r (wdF S (risL S w L) w m) r.1.1 0) = hold3 (crL r (wdF S (risL S w L') w m) r.1.1 0)
        rw [funext (q.wd he hmi c.1 c.2)]
    · have := q6 m h (by omega)
      rw [if_pos (show bkd (risL S w L).2.2.2.2.1 (nI m) from this.1), if_pos (show bkd (risL S w L').2.2.2.2.1 (nI m) from this.2)]
  rw [ft]
theorem sagN_fix {bk : Int32} {m : Nat} {l : Nat → Int32} (h : bkd bk (nI m)) : ∀ k, sagN bk k l m = l m
  | 0 => rfl
  | k + 1 => by rw [sagN, sag1_fix h, sagN_fix h k]
theorem lin_fix {S : MS} {R : Option MR} {w : Int32} {L : ML} {m : Nat} (h : bkd L.2.2.2.2.1 (nI m)) (hb : bdI (L.1 m) (-20) 20) : linF S R w L m = L.1 m := by
  unfold linF
  rw [sagN_fix h]
  unfold moveF
  split
  · unfold feetF
    rw [if_pos (show bkd (risL S w L).2.2.2.2.1 (nI m) from h)]
    exact mh_id hb
  · rfl
/-- a village that is not crossed -/
def unx (S : MS) (R : Option MR) (L : ML) (n v : Nat) : Prop := ∀ k, k < n → sdM S (nitF S R k L).1 v = sdM S (nitF S R (k + 1) L).1 v
theorem nit_bk {S : MS} {R : Option MR} {L : ML} : ∀ k, (nitF S R k L).2.2.2.2.1 = L.2.2.2.2.1
  | 0 => rfl
  | k + 1 => nit_bk k
theorem nit_bd {S : MS} {R : Option MR} {L : ML} (hmi : S.1.1 ≤ 10) (h : ∀ m, m < 10 → bdI (L.1 m) (-20) 20) : ∀ k, ∀ m, m < 10 → bdI ((nitF S R k L).1 m) (-20) 20
  | 0 => h
  | k + 1 => linF_bd hmi (nit_bd hmi h k)
theorem nit_ag {S : MS} {R : Option MR} {b e : Nat} {L L' : ML} (he : e ≤ S.1.1) (hmi : S.1.1 ≤ 10) (q : AG S.1.1 b e L L') : ∀ k, AG S.1.1 b e (nitF S R k L) (nitF S R k L')
  | 0 => q
  | k + 1 => by
    have ih := nit_ag (R := R) he hmi q k
    show AG S.1.1 b e (nightF S R (warmF S (nitF S R k L).2.2.2.2.2) _) (nightF S R (warmF S (nitF S R k L').2.2.2.2.2) _)
    rw [ih.2.2.2.1]
    exact ih.night he hmi
theorem unx_bk {S : MS} {R : Option MR} {L : ML} {n v : Nat} (hmi : S.1.1 ≤ 10) (h : ∀ m, m < 10 → bdI (L.1 m) (-20) 20) (hv : vM S v < 10) (hb : bkd L.2.2.2.2.1 (nI (vM S v))) : unx S R L n v := fun k _ => by
  unfold sdM
  show _ = sdV (linF S R (warmF S (nitF S R k L).2.2.2.2.2) (nitF S R k L) (vM S v)) _
  rw [lin_fix (by rw [nit_bk]; exact hb) (nit_bd hmi h k _ hv)]
theorem unx_ag {S : MS} {R : Option MR} {b e n v : Nat} {L L' : ML} (he : e ≤ S.1.1) (hmi : S.1.1 ≤ 10) (q : AG S.1.1 b e L L') (h1 : b ≤ vM S v) (h2 : vM S v < e) : unx S R L n v ↔ unx S R L' n v := by
  have e : ∀ k, sdM S (nitF S R k L).1 v = sdM S (nitF S R k L').1 v := fun k => by
    unfold sdM
    rw [(nit_ag (R := R) he hmi q k).1 _ (by omega) (by omega) (by omega)]
  unfold unx
  simp only [e]
def bkL (B : Nat) (L : ML) : ML := (L.1, L.2.1, L.2.2.1, L.2.2.2.1, nI B, L.2.2.2.2.2)
/-- no village is crossed -/
def pcF (S : MS) (R : Option MR) (L : ML) (n : Nat) : Prop := ∀ v, v < S.1.2.1 → unx S R L n v
/-- all but the miles from b to ahead of e -/
def otB (mi b e : Nat) : Nat := (2 ^ mi - 1) - (2 ^ e - 2 ^ b)
theorem ot_c : ∀ mi, mi < 11 → ∀ e, e < mi + 1 → ∀ b, b < e → ∀ m, m < mi → ((otB mi b e).testBit m = decide (¬ (b ≤ m ∧ m < e)) ∧ otB mi b e < 2 ^ mi) := by decide +kernel
theorem ag_ot {S : MS} {b e B : Nat} {L : ML} (hmi : S.1.1 ≤ 10) (he : e ≤ S.1.1) (hbe : b < e) (hB : B < 2 ^ S.1.1) (h1 : ∀ m, b ≤ m → m < e → B.testBit m = false) (h2 : ∀ m, m < S.1.1 → (m + 1 = b ∨ m = e) → B.testBit m = true) : AG S.1.1 b e (bkL B L) (bkL (otB S.1.1 b e) L) := by
  have p10 : 2 ^ S.1.1 ≤ 2 ^ 10 := Nat.pow_le_pow_right (by decide) hmi
  have o := ot_c S.1.1 (by omega) e (by omega) b hbe
  have o0 := (o b (by omega)).2
  refine ⟨fun _ _ _ _ => rfl, fun _ _ _ => rfl, rfl, rfl, fun m a1 a2 => ⟨?_, ?_⟩, fun m a1 a2 => ⟨?_, ?_⟩⟩
  · show ¬ bkd (nI B) (nI m)
    rw [bkd_B (by omega) (by omega), h1 m a1 a2]; decide
  · show ¬ bkd (nI (otB S.1.1 b e)) (nI m)
    rw [bkd_B (by omega) (by omega), (o m (by omega)).1, decide_eq_true_eq]; omega
  · show bkd (nI B) (nI m)
    rw [bkd_B (by omega) (by omega)]; exact h2 m a1 a2
  · show bkd (nI (otB S.1.1 b e)) (nI m)
    rw [bkd_B (by omega) (by omega), (o m a1).1, decide_eq_true_eq]; omega
