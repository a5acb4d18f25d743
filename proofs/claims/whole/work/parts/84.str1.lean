/-! a strip told: what is read -/
theorem spF_cg {c c' : Nat → Bool} {N : Nat} (e : ∀ j, j < N → c j = c' j) : ∀ t q, N - q ≤ t → spF c N q = spF c' N q := by
  intro t
  induction t with
  | zero => intro q hq; rw [sp_st (fun z => by omega), sp_st (fun z => by omega)]
  | succ t ih =>
    intro q hq
    by_cases z : q < N
    · by_cases y : c q = true
      · rw [sp_go z y, sp_go z (by rw [← e q z]; exact y)]; exact ih _ (by omega)
      · rw [sp_st (fun x => y x.2), sp_st (fun x => y (by rw [e q z]; exact x.2))]
    · rw [sp_st (fun x => z x.1), sp_st (fun x => z x.1)]
theorem sk_cg {T U : Nat → Int32} {N : Nat} (e : ∀ j, j < N → T j = U j) (p : Nat) : skB T N p = skB U N p := spF_cg (fun j hj => by show decide _ = decide _; rw [e j hj]) _ p (Nat.le_refl _)
theorem tk_cg {T U : Nat → Int32} {N : Nat} (e : ∀ j, j < N → T j = U j) (b : Nat) : tkE T N b = tkE U N b := by
  unfold tkE
  by_cases hb : N ≤ b
  · rw [if_pos hb, if_pos hb]
  · have e1 := e b (by omega)
    have j1 : jnB T N b = jnB U N b := by
      unfold jnB
      by_cases z : b + 1 < N
      · rw [e1, e (b + 1) z]
      · rw [decide_eq_decide]
        exact ⟨fun y => absurd y.2.1 z, fun y => absurd y.2.1 z⟩
    rw [if_neg hb, if_neg hb, e1, j1, spF_cg (c := fun j => isDg (T j)) (c' := fun j => isDg (U j)) (fun j hj => by show isDg _ = isDg _; rw [e j hj]) _ (b + 1) (Nat.le_refl _), spF_cg (c := fun j => isLt_ (T j)) (c' := fun j => isLt_ (U j)) (fun j hj => by show isLt_ _ = isLt_ _; rw [e j hj]) _ (b + 1) (Nat.le_refl _)]
theorem vl_cg {T U : Nat → Int32} {N : Nat} (e : ∀ j, j < N → T j = U j) (b : Nat) : ∀ k, b + k ≤ N → vlN T b k = vlN U b k
  | 0, _ => rfl
  | k + 1, h => by
    rw [vlN, vlN, vl_cg e b k (by omega)]
    unfold dgN
    rw [e (b + k) (by omega)]
theorem dgs_cg {T U : Nat → Int32} {N : Nat} (e : ∀ j, j < N → T j = U j) (b : Nat) : dgs T N b = dgs U N b := by unfold dgs; rw [tk_cg e]
theorem vf_cg {T U : Nat → Int32} {N : Nat} (e : ∀ j, j < N → T j = U j) (b : Nat) : vlN T b (fv5 (dgs T N b)) = vlN U b (fv5 (dgs U N b)) := by
  rw [← dgs_cg e]
  by_cases h : b ≤ N
  · refine vl_cg e b _ ?_
    have := tk_N (T := T) h
    unfold fv5 dgs
    split <;> omega
  · have : dgs T N b = 0 := by unfold dgs tkE; rw [if_pos (by omega)]; omega
    rw [this]
    rfl
theorem nbK_cg {T U : Nat → Int32} {N : Nat} (e : ∀ j, j < N → T j = U j) (b : Nat) (lo hi : Int32) : nbK T N b lo hi = nbK U N b lo hi := by
  unfold nbK
  rw [vf_cg e b, dgs_cg e b]
  by_cases z : b < N
  · rw [e b z]
  · rw [if_pos (fun y => z y.1), if_pos (fun y => z y.1)]
theorem am_cg {T U : Nat → Int32} {N : Nat} (e : ∀ j, j < N → T j = U j) (lo hi : Int32) (s : Int32 × Nat) : amS T N lo hi s = amS U N lo hi s := by
  unfold amS
  rw [sk_cg e, nbK_cg e, tk_cg e]
theorem av_cg {T U : Nat → Int32} {N : Nat} (e : ∀ j, j < N → T j = U j) (q : Nat) : amV T N q = amV U N q := by
  unfold amV
  rw [sk_cg e, vf_cg e]
theorem go_cg {T U : Nat → Int32} {N : Nat} (e : ∀ j, j < N → T j = U j) (s : Int32 × Nat) : goS T N s = goS U N s := by
  unfold goS
  rw [sk_cg e]
  by_cases z : N ≤ skB U N s.2
  · rw [if_pos z, if_pos z]
  · rw [e _ (by omega)]
theorem st_cg {T U : Nat → Int32} {N : Nat} (e : ∀ j, j < N → T j = U j) (b : Nat) (w : List Int32) : stW T N b w ↔ stW U N b w := by
  have F : ∀ {T U : Nat → Int32} (e : ∀ j, j < N → T j = U j), stW T N b w → stW U N b w := fun {T U} e h => by
    refine ⟨⟨h.1.1, by rw [← e b h.1.1]; exact h.1.2⟩, by rw [← tk_cg e]; exact h.2.1, fun k hk => ?_⟩
    have := tk_N (T := T) (N := N) (b := b) (by have := h.1.1; omega)
    have h2 := h.2.1
    rw [← e (b + k) (by omega)]
    exact h.2.2 k hk
  exact ⟨F e, F (fun j hj => (e j hj).symm)⟩
/-! numbers that were taken -/
theorem am_ok {T : Nat → Int32} {N : Nat} {lo hi : Int32} {s : Int32 × Nat} (h : (amS T N lo hi s).1 = 0) (hs : s.2 ≤ N) (hN : N ≤ 400) : s.1 = 0 ∧ amV T N s.2 < 100000 ∧ ¬ nI (amV T N s.2) < lo ∧ ¬ hi < nI (amV T N s.2) ∧ amS T N lo hi s = (0, tkE T N (skB T N s.2)) ∧ tkE T N (skB T N s.2) ≤ N := by
  have f0 : s.1 = 0 := Decidable.of_not_not (fun z => by rw [am_f z] at h; exact z h)
  have bn := sk_N (T := T) hs
  cases hk : nbK T N (skB T N s.2) lo hi with
  | some c => rw [am_s f0 hk] at h; exact absurd h (flt_nz (by omega) (nbK_c hk))
  | none =>
    unfold nbK at hk
    split at hk
    · cases hk
    · rename_i hd
      have hd := Decidable.of_not_not hd
      split at hk
      · cases hk
      · rename_i c
        refine ⟨f0, ?_, fun z => c (Or.inr (Or.inl z)), fun z => c (Or.inr (Or.inr z)), am_n f0 (nbK_n hd c), (tk_N bn).2⟩
        have d5 : dgs T N (skB T N s.2) ≤ 5 := Nat.le_of_not_lt (fun z => c (Or.inl z))
        have f5 : fv5 (dgs T N (skB T N s.2)) ≤ 5 ∧ fv5 (dgs T N (skB T N s.2)) ≤ dgs T N (skB T N s.2) := by unfold fv5; split <;> omega
        have := vl_lt (T := T) (b := skB T N s.2) (k := fv5 (dgs T N (skB T N s.2))) (fun j hj => (dgN_e (dgs_in hd.1 hd.2 (j := j) (by omega)).2).1)
        exact Nat.lt_of_lt_of_le this (Nat.le_trans (Nat.pow_le_pow_right (by decide) f5.1) (by decide))
theorem am_N {T : Nat → Int32} {N : Nat} {lo hi : Int32} {s : Int32 × Nat} (hs : s.2 ≤ N) (hN : N ≤ 400) : (amS T N lo hi s).2 ≤ N := by
  by_cases f : ¬ s.1 = 0
  · rw [am_f f]; exact hs
  · have f := Decidable.of_not_not f
    cases hk : nbK T N (skB T N s.2) lo hi with
    | some c => rw [am_s f hk]; exact hs
    | none => rw [am_n f hk]; exact (tk_N (sk_N hs)).2
theorem am_rg {T : Nat → Int32} {N : Nat} {lo hi : Nat} {s : Int32 × Nat} (h : (amS T N (nI lo) (nI hi) s).1 = 0) (hs : s.2 ≤ N) (hN : N ≤ 400) (h1 : lo < 100000) (h2 : hi < 100000) : lo ≤ amV T N s.2 ∧ amV T N s.2 ≤ hi := by
  have a := am_ok h hs hN
  constructor
  · exact Nat.le_of_not_lt (fun z => a.2.2.1 (nI_lt (by omega) (by omega) |> fun f => f))
  · exact Nat.le_of_not_lt (fun z => a.2.2.2.1 (nI_lt (by omega) (by omega)))
/-- the highest number told, by how many there are -/
def hiN (n : Nat) : Int32 := nI n - 1
theorem am_hi {T : Nat → Int32} {N n : Nat} {s : Int32 × Nat} (h : (amS T N 0 (hiN n) s).1 = 0) (hs : s.2 ≤ N) (hN : N ≤ 400) (h2 : n < 100000) : amV T N s.2 < n := by
  by_cases z : n = 0
  · have a := (am_ok h hs hN)
    refine absurd ?_ a.2.2.2.1
    rw [z, fa_lt]
    have : (hiN 0).toInt = -1 := by decide
    rw [this]
    have := nI_toInt (n := amV T N s.2) (by omega)
    omega
  · have e : hiN n = nI (n - 1) := nI_sub (b := 1) (by omega)
    rw [e] at h
    have := (am_rg (lo := 0) h hs hN (by decide) (by omega)).2
    omega
theorem am_lo {T : Nat → Int32} {N : Nat} {lo lo' hi : Int32} {s : Int32 × Nat} (h : s.1 = 0 → lo = lo') : amS T N lo hi s = amS T N lo' hi s := by
  by_cases z : s.1 = 0
  · rw [h z]
  · rw [am_f z, am_f z]
/-! clauses -/
def kdS (T : Nat → Int32) (N b : Nat) : Nat := spF (fun k => decide (¬ stW T N b (wdO k))) 6 0
theorem kd_le {T : Nat → Int32} {N b : Nat} : kdS T N b ≤ 6 := sp_N (by decide)
theorem kd_is {T : Nat → Int32} {N b : Nat} (h : kdS T N b < 6) : stW T N b (wdO (kdS T N b)) := by
  have := sp_out (c := fun k => decide (¬ stW T N b (wdO k))) (N := 6) (p := 0)
  exact Decidable.of_not_not (fun z => this ⟨h, decide_eq_true z⟩)
theorem kd_no {T : Nat → Int32} {N b j : Nat} (h : j < kdS T N b) : ¬ stW T N b (wdO j) := by
  have := sp_in (c := fun k => decide (¬ stW T N b (wdO k))) (N := 6) (p := 0) (k := j) (by rw [Nat.zero_add]; exact h)
  rw [Nat.zero_add] at this
  exact of_decide_eq_true this.2
theorem kd_cg {T U : Nat → Int32} {N : Nat} (e : ∀ j, j < N → T j = U j) (b : Nat) : kdS T N b = kdS U N b := spF_cg (fun j _ => by show decide _ = decide _; rw [decide_eq_decide, st_cg e]) _ 0 (Nat.le_refl _)
section PT
variable (T : Nat → Int32) (N : Nat)
def p0A (s : Int32 × Nat) : Int32 × Nat := amS T N 0 3 (amS T N 2 10 s)
def p0V (s : Int32 × Nat) (S : MS) : MS := ((amV T N s.2, S.1.2.1, S.1.2.2.1, nI (amV T N (amS T N 2 10 s).2)), S.2)
def p1a (mi : Nat) (s : Int32 × Nat) : Int32 × Nat := amS T N 0 (hiN mi) s
def p1b (mi : Nat) (s : Int32 × Nat) : Int32 × Nat := amS T N 0 40 (p1a T N mi s)
def p1c (mi : Nat) (s : Int32 × Nat) : Int32 × Nat := amS T N 0 99 (p1b T N mi s)
def p1A (mi : Nat) (s : Int32 × Nat) : Int32 × Nat := amS T N 0 9 (p1c T N mi s)
def p1V (s : Int32 × Nat) (S : MS) : MS := (S.1, S.2.1, (jx_up S.2.2.1 (amV T N s.2) (nI (amV T N (p1a T N S.1.1 s).2) - 20), jx_up S.2.2.2.1 (amV T N s.2) (nI (amV T N (p1b T N S.1.1 s).2)), jx_up S.2.2.2.2.1 (amV T N s.2) (nI (amV T N (p1c T N S.1.1 s).2)), S.2.2.2.2.2))
def p2a (s : Int32 × Nat) : Int32 × Nat := amS T N 0 99 s
def p2b (s : Int32 × Nat) : Int32 × Nat := amS T N (nI (amV T N s.2)) 99 (p2a T N s)
def p2A (s : Int32 × Nat) : Int32 × Nat := amS T N 1 9 (p2b T N s)
def p2V (s : Int32 × Nat) (S : MS) : MS := (S.1, (fun j => if amV T N s.2 ≤ j ∧ j ≤ amV T N (p2a T N s).2 then nI (amV T N (p2b T N s).2) else S.2.1.1 j, S.2.1.2), S.2.2)
def p3V (s : Int32 × Nat) (S : MS) : MS := (S.1, S.2.1, (S.2.2.1, S.2.2.2.1, S.2.2.2.2.1, S.2.2.2.2.2.1, S.2.2.2.2.2.2.1 ||| (1 <<< (nI (amV T N s.2) &&& 31)), S.2.2.2.2.2.2.2))
def p4A (mi : Nat) (s : Int32 × Nat) : Int32 × Nat := amS T N 0 1 (p1b T N mi s)
def p4V (s : Int32 × Nat) (S : MS) : MS := ((S.1.1, S.1.2.1 + 1, S.1.2.2), (S.2.1.1, jx_up S.2.1.2.1 S.1.2.1 (nI (amV T N s.2)), jx_up S.2.1.2.2.1 S.1.2.1 (nI (amV T N (p1a T N S.1.1 s).2) - 20), jx_up S.2.1.2.2.2.1 S.1.2.1 (nI (amV T N (p1b T N S.1.1 s).2)), S.2.1.2.2.2.2), S.2.2)
def p5A (nv : Nat) (s : Int32 × Nat) : Int32 × Nat := amS T N 0 1 (p1a T N nv s)
def p5V (s : Int32 × Nat) (S : MS) : MS := ((S.1.1, S.1.2.1, S.1.2.2.1 + 1, S.1.2.2.2), (S.2.1.1, S.2.1.2.1, S.2.1.2.2.1, S.2.1.2.2.2.1, jx_up S.2.1.2.2.2.2.1 S.1.2.2.1 (nI (amV T N s.2)), jx_up S.2.1.2.2.2.2.2 S.1.2.2.1 (nI (amV T N (p1a T N S.1.2.1 s).2))), S.2.2)
def ptA (k : Nat) (s : Int32 × Nat) (S : MS) : Int32 × Nat := match k with
  | 0 => p0A T N s | 1 => p1A T N S.1.1 s | 2 => p2A T N s | 3 => p1a T N S.1.1 s | 4 => p4A T N S.1.1 s | _ => p5A T N S.1.2.1 s
def ptV (k : Nat) (s : Int32 × Nat) (S : MS) : MS := match k with
  | 0 => p0V T N s S | 1 => p1V T N s S | 2 => p2V T N s S | 3 => p3V T N s S | 4 => p4V T N s S | _ => p5V T N s S
def ptS (k : Nat) (s : Int32 × Nat) (S : MS) : (Int32 × Nat) × MS := (ptA T N k s S, if (ptA T N k s S).1 = 0 then ptV T N k s S else S)
def flS (n k : Nat) (S : MS) : Bool := decide (n = 40 ∨ ¬ (k = 0 ↔ n = 0) ∨ (k = 4 ∧ S.1.2.1 = 8) ∨ (k = 5 ∧ S.1.2.2.1 = 8))
def clS (n q : Nat) (S : MS) : (Int32 × Nat) × MS := if kdS T N (skB T N q) = 6 then ((fltI (skB T N q) 0, q), S) else if flS n (kdS T N (skB T N q)) S = true then ((fltI (skB T N q) 4, q), S) else ptS T N (kdS T N (skB T N q)) (0, tkE T N (skB T N q)) S
def itS (S : MS) : Nat → Bool × (Int32 × Nat) × MS
  | 0 => (true, (0, 0), S)
  | n + 1 => if (itS S n).1 = true then ((goS T N (clS T N n (itS S n).2.1.2 (itS S n).2.2).1).1, (goS T N (clS T N n (itS S n).2.1.2 (itS S n).2.2).1).2, (clS T N n (itS S n).2.1.2 (itS S n).2.2).2) else itS S n
end PT
theorem pt_cg {T U : Nat → Int32} {N : Nat} (e : ∀ j, j < N → T j = U j) (k : Nat) (s : Int32 × Nat) (S : MS) : ptS T N k s S = ptS U N k s S := by
  have A := fun lo hi s => am_cg (T := T) (U := U) e lo hi s
  have V := fun q => av_cg (T := T) (U := U) e q
  have a0 : ∀ s, p0A T N s = p0A U N s := fun s => by unfold p0A; rw [A, A]
  have a1 : ∀ m s, p1a T N m s = p1a U N m s := fun m s => by unfold p1a; rw [A]
  have a2 : ∀ m s, p1b T N m s = p1b U N m s := fun m s => by unfold p1b; rw [A, a1]
  have a3 : ∀ m s, p1c T N m s = p1c U N m s := fun m s => by unfold p1c; rw [A, a2]
  have a4 : ∀ m s, p1A T N m s = p1A U N m s := fun m s => by unfold p1A; rw [A, a3]
  have a5 : ∀ s, p2a T N s = p2a U N s := fun s => by unfold p2a; rw [A]
  have a6 : ∀ s, p2b T N s = p2b U N s := fun s => by unfold p2b; rw [A, a5, V]
  have a7 : ∀ s, p2A T N s = p2A U N s := fun s => by unfold p2A; rw [A, a6]
  have a8 : ∀ m s, p4A T N m s = p4A U N m s := fun m s => by unfold p4A; rw [A, a2]
  have a9 : ∀ m s, p5A T N m s = p5A U N m s := fun m s => by unfold p5A; rw [A, a1]
  have X : ptA T N k s S = ptA U N k s S := by
    unfold ptA
    rw [a0, a4, a7, a1, a8, a9]
  have Y : ptV T N k s S = ptV U N k s S := by
    unfold ptV p0V p1V p2V p3V p4V p5V
    rw [a1, a2, a3, a5, a6, a1, A, V, V, V, V, V, V, V, V]
  unfold ptS
  rw [X, Y]
theorem cl_cg {T U : Nat → Int32} {N : Nat} (e : ∀ j, j < N → T j = U j) (n q : Nat) (S : MS) : clS T N n q S = clS U N n q S := by
  unfold clS
  rw [sk_cg e, kd_cg e, tk_cg e, pt_cg e]
theorem it_cg {T U : Nat → Int32} {N : Nat} (e : ∀ j, j < N → T j = U j) (S : MS) : ∀ n, itS T N S n = itS U N S n
  | 0 => rfl
  | n + 1 => by
    rw [itS, itS, it_cg e S n, cl_cg e, go_cg e]

