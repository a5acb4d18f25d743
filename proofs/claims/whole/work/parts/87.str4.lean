/-! a strip told: what is always so -/
theorem bd_20 : ∀ v, v < 41 → (-20 ≤ (nI v - 20).toInt ∧ (nI v - 20).toInt ≤ 20) := by decide +kernel
theorem bd_n {v u : Nat} (h : v ≤ u) (hu : u < 100000) : bdI (nI v) 0 u := by
  unfold bdI
  rw [nI_toInt (by omega)]
  omega
theorem fl_n {n k : Nat} {S : MS} (h : ¬ flS n k S = true) : ¬ n = 40 ∧ (k = 0 ↔ n = 0) ∧ ¬ (k = 4 ∧ S.1.2.1 = 8) ∧ ¬ (k = 5 ∧ S.1.2.2.1 = 8) := by
  have z : ¬ (n = 40 ∨ ¬ (k = 0 ↔ n = 0) ∨ (k = 4 ∧ S.1.2.1 = 8) ∨ (k = 5 ∧ S.1.2.2.1 = 8)) := fun z => h (decide_eq_true z)
  exact ⟨fun y => z (Or.inl y), Decidable.of_not_not (fun y => z (Or.inr (Or.inl y))), fun y => z (Or.inr (Or.inr (Or.inl y))), fun y => z (Or.inr (Or.inr (Or.inr y)))⟩
theorem up_all {P : Int32 → Prop} {f : Nat → Int32} {m k : Nat} {x : Int32} (h1 : P x) (h2 : k ≠ m → P (f k)) : P (jx_up f m x k) := by
  unfold jx_up
  split
  · exact h1
  · rename_i c; exact h2 c
section WF
variable {T : Nat → Int32} {N : Nat} {s : Int32 × Nat} {S : MS}
theorem wf_0 (hw : wfS S) (hm : S.1.1 = 0) (hs : s.2 ≤ N) (hN : N ≤ 400) (c : (p0A T N s).1 = 0) : wfS (p0V T N s S) ∧ 2 ≤ (p0V T N s S).1.1 := by
  have b1 : (amS T N 2 10 s).2 ≤ N := am_N hs hN
  have k1 := am_ok c b1 hN
  have g0 := am_rg (lo := 2) (hi := 10) k1.1 hs hN (by decide) (by decide)
  have g1 := am_rg (lo := 0) (hi := 3) c b1 hN (by decide) (by decide)
  obtain ⟨w1, w2, w3, w4, w5, w6, w7, w8⟩ := hw
  have z : S.1.2.1 = 0 ∧ S.1.2.2.1 = 0 := by rcases w1 with w1 | w1 <;> omega
  refine ⟨⟨Or.inr g0, w2, w3, bd_n g1.2 (by decide), w5, fun v hv => ?_, fun v hv => ?_, ?_⟩, g0.1⟩
  · exact absurd hv (by show ¬ v < S.1.2.1; omega)
  · exact absurd hv (by show ¬ v < S.1.2.2.1; omega)
  · obtain ⟨x1, x2, ⟨B, x3, x4⟩, x5⟩ := w8
    rw [hm] at x3
    exact ⟨x1, x2, ⟨B, Nat.lt_of_lt_of_le x3 (Nat.pow_le_pow_right (by decide) (Nat.zero_le _)), x4⟩, x5⟩
theorem wf_1 (hw : wfS S) (hm : 2 ≤ S.1.1) (hs : s.2 ≤ N) (hN : N ≤ 400) (c : (p1A T N S.1.1 s).1 = 0) : wfS (p1V T N s S) := by
  have b1 : (p1a T N S.1.1 s).2 ≤ N := am_N hs hN
  have b2 : (p1b T N S.1.1 s).2 ≤ N := am_N b1 hN
  have b3 : (p1c T N S.1.1 s).2 ≤ N := am_N b2 hN
  have k3 := am_ok c b3 hN
  have k2 := am_ok k3.1 b2 hN
  have g1 := am_rg (lo := 0) (hi := 40) k2.1 b1 hN (by decide) (by decide)
  have g2 := am_rg (lo := 0) (hi := 99) k3.1 b2 hN (by decide) (by decide)
  have g3 := am_rg (lo := 0) (hi := 9) c b3 hN (by decide) (by decide)
  obtain ⟨w1, w2, w3, w4, w5, w6, w7, w8⟩ := hw
  refine ⟨w1, w2, w3, w4, w5, w6, w7, ?_⟩
  obtain ⟨x1, x2, x3, x5⟩ := w8
  refine ⟨fun m hm => ⟨up_all (P := fun y => bdI y (-20) 20) (bd_20 _ (by omega)) (fun _ => (x1 m hm).1), up_all (P := fun y => bdI y 0 99) (bd_n g2.2 (by decide)) (fun _ => (x1 m hm).2.1), up_all (P := fun y => bdI y 0 9) (bd_n g3.2 (by decide)) (fun _ => (x1 m hm).2.2)⟩, x2, x3, x5⟩
theorem wf_2 (hw : wfS S) (hs : s.2 ≤ N) (hN : N ≤ 400) (c : (p2A T N s).1 = 0) : wfS (p2V T N s S) := by
  have b1 : (p2a T N s).2 ≤ N := am_N hs hN
  have b2 : (p2b T N s).2 ≤ N := am_N b1 hN
  have g3 := am_rg (lo := 1) (hi := 9) c b2 hN (by decide) (by decide)
  obtain ⟨w1, w2, w3, w4, w5, w6, w7, w8⟩ := hw
  refine ⟨w1, w2, w3, w4, fun j hj => ?_, w6, w7, w8⟩
  show bdI (if _ then _ else _) 0 9
  split
  · exact bd_n g3.2 (by decide)
  · exact w5 j hj
theorem wf_3 (hw : wfS S) (hm : 2 ≤ S.1.1) (hs : s.2 ≤ N) (hN : N ≤ 400) (c : (p1a T N S.1.1 s).1 = 0) : wfS (p3V T N s S) := by
  obtain ⟨w1, w2, w3, w4, w5, w6, w7, w8⟩ := hw
  have m10 : S.1.1 ≤ 10 := by rcases w1 with w1 | w1 <;> omega
  have g := am_hi c hs hN (by omega)
  refine ⟨w1, w2, w3, w4, w5, w6, w7, ?_⟩
  obtain ⟨x1, x2, ⟨B, x3, x4⟩, x5⟩ := w8
  obtain ⟨B', y1, y2⟩ := bake_b x3 g m10
  exact ⟨x1, x2, ⟨B', y1, by show S.2.2.2.2.2.2.1 ||| _ = _; rw [x4]; exact y2⟩, x5⟩
theorem own01 {v : Nat} (h : v ≤ 1) : nI v = 0 ∨ nI v = 1 := by
  match v, h with
  | 0, _ => exact Or.inl rfl
  | 1, _ => exact Or.inr rfl
theorem wf_4 (hw : wfS S) (hm : 2 ≤ S.1.1) (hv : ¬ S.1.2.1 = 8) (hs : s.2 ≤ N) (hN : N ≤ 400) (c : (p4A T N S.1.1 s).1 = 0) : wfS (p4V T N s S) := by
  obtain ⟨w1, w2, w3, w4, w5, w6, w7, w8⟩ := hw
  have m10 : S.1.1 ≤ 10 := by rcases w1 with w1 | w1 <;> omega
  have b1 : (p1a T N S.1.1 s).2 ≤ N := am_N hs hN
  have b2 : (p1b T N S.1.1 s).2 ≤ N := am_N b1 hN
  have k2 := am_ok c b2 hN
  have k1 := am_ok k2.1 b1 hN
  have g0 := am_hi k1.1 hs hN (by omega)
  have g1 := am_rg (lo := 0) (hi := 40) k2.1 b1 hN (by decide) (by decide)
  have g2 := am_rg (lo := 0) (hi := 1) c b2 hN (by decide) (by decide)
  refine ⟨Or.inr ⟨hm, m10⟩, by show S.1.2.1 + 1 ≤ 8; omega, w3, w4, w5, fun v hv => ?_, fun u hu => ?_, ?_⟩
  · have hv : v < S.1.2.1 + 1 := hv
    refine ⟨up_all (P := fun y => ∃ m, m < S.1.1 ∧ y = nI m) ⟨_, g0, rfl⟩ (fun z => (w6 v (by omega)).1), up_all (P := fun y => bdI y (-20) 20) (bd_20 _ (by omega)) (fun z => (w6 v (by omega)).2.1), up_all (P := fun y => y = 0 ∨ y = 1) (own01 g2.2) (fun z => (w6 v (by omega)).2.2)⟩
  · obtain ⟨⟨v, a1, a2⟩, a3⟩ := w7 u hu
    exact ⟨⟨v, Nat.lt_succ_of_lt a1, a2⟩, a3⟩
  · obtain ⟨x1, x2, x3, x5⟩ := w8
    exact ⟨x1, fun v hv => ⟨(x2 v hv).1, fun z => (x2 v hv).2 (Nat.le_of_succ_le z)⟩, x3, x5⟩
theorem wf_5 (hw : wfS S) (hm : 2 ≤ S.1.1) (hv : ¬ S.1.2.2.1 = 8) (hs : s.2 ≤ N) (hN : N ≤ 400) (c : (p5A T N S.1.2.1 s).1 = 0) : wfS (p5V T N s S) := by
  obtain ⟨w1, w2, w3, w4, w5, w6, w7, w8⟩ := hw
  have m10 : S.1.1 ≤ 10 := by rcases w1 with w1 | w1 <;> omega
  have b1 : (p1a T N S.1.2.1 s).2 ≤ N := am_N hs hN
  have k1 := am_ok c b1 hN
  have g0 := am_hi k1.1 hs hN (by omega)
  have g1 := am_rg (lo := 0) (hi := 1) c b1 hN (by decide) (by decide)
  refine ⟨Or.inr ⟨hm, m10⟩, w2, by show S.1.2.2.1 + 1 ≤ 8; omega, w4, w5, w6, fun v hv => ?_, w8⟩
  have hv : v < S.1.2.2.1 + 1 := hv
  exact ⟨up_all (P := fun y => ∃ m, m < S.1.2.1 ∧ y = nI m) ⟨_, g0, rfl⟩ (fun z => (w7 v (by omega)).1), up_all (P := fun y => y = 0 ∨ y = 1) (own01 g1.2) (fun z => (w7 v (by omega)).2)⟩
/-- a strip while it is read -/
def itW (N n : Nat) (s : Int32 × Nat) (S : MS) : Prop := wfS S ∧ s.2 ≤ N ∧ (s.1 = 0 → (n = 0 → S.1.1 = 0) ∧ (0 < n → 2 ≤ S.1.1))
theorem ptA_N {k : Nat} (hs : s.2 ≤ N) (hN : N ≤ 400) : (ptA T N k s S).2 ≤ N := by
  unfold ptA p0A p1A p2A p4A p5A p1c p2b p1b p2a p1a
  split
  · exact am_N (am_N hs hN) hN
  · exact am_N (am_N (am_N (am_N hs hN) hN) hN) hN
  · exact am_N (am_N (am_N hs hN) hN) hN
  · exact am_N hs hN
  · exact am_N (am_N (am_N hs hN) hN) hN
  · exact am_N (am_N hs hN) hN
theorem cl_wf {n q : Nat} (hw : itW N n (0, q) S) (hn : n ≤ 40) (hN : N ≤ 400) : itW N (n + 1) (clS T N n q S).1 (clS T N n q S).2 ∧ (n = 40 → ¬ (clS T N n q S).1.1 = 0) := by
  obtain ⟨w1, w2, w3⟩ := hw
  have w2 : q ≤ N := w2
  have hb : skB T N q ≤ N := sk_N w2
  have nz : ∀ c, c ≤ 4 → ¬ fltI (skB T N q) c = 0 := fun c hc => flt_nz (by omega) hc
  by_cases h6 : kdS T N (skB T N q) = 6
  · rw [cl_6 h6]
    exact ⟨⟨w1, w2, fun z => absurd z (nz 0 (by decide))⟩, fun _ => nz 0 (by decide)⟩
  · by_cases f : flS n (kdS T N (skB T N q)) S = true
    · rw [cl_f h6 f]
      exact ⟨⟨w1, w2, fun z => absurd z (nz 4 (by decide))⟩, fun _ => nz 4 (by decide)⟩
    · rw [cl_o h6 f]
      have g := fl_n f
      have hs : ((0, tkE T N (skB T N q)) : Int32 × Nat).2 ≤ N := (tk_N hb).2
      refine ⟨?_, fun z => absurd z g.1⟩
      have kl := kd_le (T := T) (N := N) (b := skB T N q)
      have m2 : ¬ n = 0 → 2 ≤ S.1.1 := fun z => (w3 rfl).2 (by omega)
      generalize kdS T N (skB T N q) = k at g kl h6
      have P : (ptA T N k (0, tkE T N (skB T N q)) S).1 = 0 → wfS (ptV T N k (0, tkE T N (skB T N q)) S) ∧ 2 ≤ (ptV T N k (0, tkE T N (skB T N q)) S).1.1 := fun c => by
        match k, kl, h6 with
        | 0, _, _ => exact wf_0 w1 ((w3 rfl).1 (g.2.1.mp rfl)) hs hN c
        | 1, _, _ => exact ⟨wf_1 w1 (m2 (fun z => absurd (g.2.1.mpr z) (by decide))) hs hN c, m2 (fun z => absurd (g.2.1.mpr z) (by decide))⟩
        | 2, _, _ => exact ⟨wf_2 w1 hs hN c, m2 (fun z => absurd (g.2.1.mpr z) (by decide))⟩
        | 3, _, _ => exact ⟨wf_3 w1 (m2 (fun z => absurd (g.2.1.mpr z) (by decide))) hs hN c, m2 (fun z => absurd (g.2.1.mpr z) (by decide))⟩
        | 4, _, _ => exact ⟨wf_4 w1 (m2 (fun z => absurd (g.2.1.mpr z) (by decide))) (fun z => g.2.2.1 ⟨rfl, z⟩) hs hN c, m2 (fun z => absurd (g.2.1.mpr z) (by decide))⟩
        | 5, _, _ => exact ⟨wf_5 w1 (m2 (fun z => absurd (g.2.1.mpr z) (by decide))) (fun z => g.2.2.2 ⟨rfl, z⟩) hs hN c, m2 (fun z => absurd (g.2.1.mpr z) (by decide))⟩
        | k + 6, kl, h6 => exact absurd (show k + 6 = 6 by omega) h6
      unfold ptS
      refine ⟨?_, ptA_N hs hN, fun z => ⟨fun y => absurd y (Nat.succ_ne_zero n), fun _ => ?_⟩⟩
      · show wfS (if _ then _ else _)
        split
        · rename_i c; exact (P c).1
        · exact w1
      · have z : (ptA T N k (0, tkE T N (skB T N q)) S).1 = 0 := z
        show 2 ≤ (if _ then _ else _ : MS).1.1
        rw [if_pos z]
        exact (P z).2
end WF
theorem go_N {T : Nat → Int32} {N : Nat} {s : Int32 × Nat} (hs : s.2 ≤ N) (hN : N ≤ 400) : (goS T N s).2.2 ≤ N ∧ ((goS T N s).1 = true → s.1 = 0 ∧ (goS T N s).2.1 = 0) ∧ ((goS T N s).2.1 = 0 → s.1 = 0) := by
  have hb := sk_N (T := T) hs
  unfold goS
  by_cases f : ¬ s.1 = 0
  · rw [if_pos f]; exact ⟨hs, (fun z => nomatch z), fun z => z⟩
  · have f := Decidable.of_not_not f
    rw [if_neg (fun z => z f)]
    by_cases c : N ≤ skB T N s.2
    · rw [if_pos c]; exact ⟨hs, (fun z => nomatch z), fun _ => f⟩
    · rw [if_neg c]
      by_cases e : T (skB T N s.2) = 59
      · rw [if_pos e]; exact ⟨by show skB T N s.2 + 1 ≤ N; omega, fun _ => ⟨f, rfl⟩, fun _ => f⟩
      · rw [if_neg e]; exact ⟨hs, (fun z => nomatch z), fun _ => f⟩
/-- at each clause -/
theorem it_wf {T : Nat → Int32} {N : Nat} {S : MS} (hS : wfS S) (h0 : S.1.1 = 0) (hN : N ≤ 400) : ∀ n, n ≤ 41 → wfS (itS T N S n).2.2 ∧ (itS T N S n).2.1.2 ≤ N ∧ ((itS T N S n).1 = true → (itS T N S n).2.1.1 = 0 ∧ itW N n (0, (itS T N S n).2.1.2) (itS T N S n).2.2 ∧ n ≤ 40) ∧ ((itS T N S n).2.1.1 = 0 → 0 < n → 2 ≤ (itS T N S n).2.2.1.1)
  | 0, _ => ⟨hS, Nat.zero_le N, fun _ => ⟨rfl, ⟨hS, Nat.zero_le N, fun _ => ⟨fun _ => h0, fun z => absurd z (Nat.lt_irrefl 0)⟩⟩, by decide⟩, fun _ z => absurd z (Nat.lt_irrefl 0)⟩
  | n + 1, hn => by
    have ih := it_wf (T := T) hS h0 hN n (by omega)
    by_cases c : (itS T N S n).1 = true
    · obtain ⟨i1, i2, i3⟩ := ih.2.2.1 c
      have g := cl_wf (T := T) i2 i3 hN
      have k := go_N (T := T) g.1.2.1 hN
      rw [itS, if_pos c]
      refine ⟨g.1.1, k.1, fun z => ⟨(k.2.1 z).2, ⟨g.1.1, k.1, fun _ => g.1.2.2 (k.2.1 z).1⟩, ?_⟩, fun z _ => (g.1.2.2 (k.2.2 z)).2 (Nat.succ_pos n)⟩
      have : n ≠ 40 := fun e => g.2 e (k.2.1 z).1
      omega
    · rw [itS, if_neg c]
      refine ⟨ih.1, ih.2.1, fun z => absurd z c, fun z _ => ?_⟩
      by_cases e : n = 0
      · exact absurd (by rw [e]; rfl) c
      · exact ih.2.2.2 z (by omega)
theorem it_st {T : Nat → Int32} {N : Nat} {S : MS} {n : Nat} (h : ¬ (itS T N S n).1 = true) : ∀ k, itS T N S (n + k) = itS T N S n
  | 0 => rfl
  | k + 1 => by
    have e := it_st h k
    show itS T N S (n + k + 1) = _
    rw [itS, e, if_neg h]
theorem it_41 {T : Nat → Int32} {N : Nat} {S : MS} (hS : wfS S) (h0 : S.1.1 = 0) (hN : N ≤ 400) : ¬ (itS T N S 41).1 = true := fun z => absurd ((it_wf hS h0 hN 41 (by decide)).2.2.1 z).2.2 (by decide)
theorem it_e {T : Nat → Int32} {N : Nat} {S : MS} {n : Nat} (hn : n ≤ 41) (h : ¬ (itS T N S n).1 = true) : itS T N S 41 = itS T N S n := by
  have := it_st h (41 - n)
  rw [show n + (41 - n) = 41 by omega] at this
  exact this
/-- the strip that is told anew -/
def S00 : MS := ((0, 0, 0, 0), (fun _ => 0, fun _ => 0, fun _ => 0, fun _ => 0, fun _ => 0, fun _ => 0), (fun _ => 0, fun _ => 10, fun _ => 0, fun _ => 0, 0, 0))
theorem wf_00 : wfS S00 := by
  have b : ∀ lo hi : Int, lo ≤ 0 → 0 ≤ hi → bdI 0 lo hi := fun lo hi h1 h2 => ⟨h1, h2⟩
  refine ⟨Or.inl ⟨rfl, rfl, rfl⟩, by decide, by decide, b 0 3 (by decide) (by decide), fun _ _ => b 0 9 (by decide) (by decide), fun v hv => absurd hv (Nat.not_lt_zero v), fun v hv => absurd hv (Nat.not_lt_zero v), ?_⟩
  exact ⟨fun m _ => ⟨b (-20) 20 (by decide) (by decide), bd_n (v := 10) (u := 99) (by decide) (by decide), b 0 9 (by decide) (by decide)⟩, fun v _ => ⟨b 0 0 (by decide) (by decide), fun _ => rfl⟩, ⟨0, by decide, rfl⟩, 0, by decide, rfl⟩
