/-! a rule told: clauses -/
abbrev RC : Type := Bool × RS × Nat × (Nat → Nat) × (Nat → Nat) × (Nat → Nat)
section CL
variable (T : Nat → Int32) (N : Nat)
def c0R (n : Nat) (s : RS) : RS := if s.1 = 0 ∧ stW T N s.2.1 (wdO 6) then (if n = 12 then blR 4 s else s) else blR 0 s
def c1R (n : Nat) (s : RS) : RS := smR T N (avR T N (c0R T N n s))
def c2R (n : Nat) (s : RS) : RS := if (c1R T N n s).1 = 0 ∧ stW T N (c1R T N n s).2.1 (wdO 7) then teR T N 10 (avR T N (c1R T N n s)) else c1R T N n s
def gsR (s : RS) : Bool × RS := ((goS T N (s.1, s.2.1)).1, ((goS T N (s.1, s.2.1)).2.1, skB T N (goS T N (s.1, s.2.1)).2.2, s.2.2))
def nxR (n : Nat) (x : RC) : RC := ((gsR T N (c2R T N n x.2.1)).1, (gsR T N (c2R T N n x.2.1)).2, x.2.2.1 + 1, jx_up x.2.2.2.1 n x.2.1.2.2.2.length, jx_up x.2.2.2.2.1 n (c1R T N n x.2.1).2.2.2.length, jx_up x.2.2.2.2.2 n (c2R T N n x.2.1).2.2.2.length)
def itR : Nat → RC
  | 0 => (true, (0, skB T N 0, 0, []), 0, fun _ => 0, fun _ => 0, fun _ => 0)
  | n + 1 => if (itR n).1 = true then nxR T N n (itR n) else itR n
end CL
def jR (T : Nat → Int32) (N : Nat) (s : RS) : Prop := iR T N s ∧ fpI s.1 ∧ (s.1 = 0 → nnL s.2.2.2 ≤ s.2.2.1)
theorem gd_j {T : Nat → Int32} {N : Nat} {y : Bool} {g : RS → RS} (hg : gdR T N y g) {s : RS} (j : jR T N s) : jR T N (g s) := by
  refine ⟨gd_i hg j.1, ?_, fun z => ?_⟩
  · by_cases f : s.1 = 0
    · exact ((hg s).2 f j.1.1).1
    · rw [(hg s).1 f]; exact j.2.1
  · have f := gd_0 hg z
    have a1 := (((hg s).2 f j.1.1).2 z).2.2.1.2.2.2
    have a2 := j.2.2 f
    omega
theorem av_j {T : Nat → Int32} {N : Nat} {s : RS} (j : jR T N s) : jR T N (avR T N s) := by
  by_cases f : s.1 = 0
  · obtain ⟨a1, a2, a3, a4, a5⟩ := av_ok f j.1.1
    exact ⟨av_i j.1, Or.inl a1, fun _ => by rw [a5]; exact j.2.2 f⟩
  · rw [av_f f]; exact j
theorem bl_j {T : Nat → Int32} {N k : Nat} {s : RS} (j : jR T N s) (hN : N ≤ 400) (hk : k ≤ 4) : jR T N (blR k s) := by
  refine ⟨bl_i j.1.1 hN hk, ?_, fun z => absurd z (bl_nz j.1.1 hN hk)⟩
  by_cases f : s.1 = 0
  · rw [bl_o f]; exact fpI_f (by have := (j.1.1 f).1; omega) hk
  · rw [bl_f f]; exact j.2.1
theorem c0_j {T : Nat → Int32} {N n : Nat} {s : RS} (j : jR T N s) (hN : N ≤ 400) : jR T N (c0R T N n s) := by
  unfold c0R
  split
  · split
    · exact bl_j j hN (by decide)
    · exact j
  · exact bl_j j hN (by decide)
theorem c0_o {T : Nat → Int32} {N n : Nat} {s : RS} (o : okR T N s) (hN : N ≤ 400) (h : (c0R T N n s).1 = 0) : s.1 = 0 ∧ stW T N s.2.1 (wdO 6) ∧ ¬ n = 12 ∧ c0R T N n s = s := by
  unfold c0R at h ⊢
  by_cases c : s.1 = 0 ∧ stW T N s.2.1 (wdO 6)
  · rw [if_pos c] at h ⊢
    by_cases d : n = 12
    · rw [if_pos d] at h
      exact absurd h (bl_nz o hN (by decide))
    · rw [if_neg d]
      exact ⟨c.1, c.2, d, rfl⟩
  · rw [if_neg c] at h
    exact absurd h (bl_nz o hN (by decide))
theorem c1_j {T : Nat → Int32} {N n : Nat} {s : RS} (j : jR T N s) (hN : N ≤ 400) : jR T N (c1R T N n s) := gd_j (sm_gd hN) (av_j (c0_j j hN))
theorem c2_j {T : Nat → Int32} {N n : Nat} {s : RS} (j : jR T N s) (hN : N ≤ 400) : jR T N (c2R T N n s) := by
  unfold c2R
  split
  · exact gd_j (te_gd hN 10) (av_j (c1_j j hN))
  · exact c1_j j hN
theorem av_0 {T : Nat → Int32} {N : Nat} {s : RS} (h : (avR T N s).1 = 0) : s.1 = 0 := by
  by_cases f : s.1 = 0
  · exact f
  · rw [av_f f] at h; exact h
theorem c1_o {T : Nat → Int32} {N n : Nat} {s : RS} (j : jR T N s) (hN : N ≤ 400) (h : (c1R T N n s).1 = 0) : s.1 = 0 ∧ stW T N s.2.1 (wdO 6) ∧ ¬ n = 12 ∧ ∃ D, (c1R T N n s).2.2.2 = s.2.2.2 ++ D ∧ rptL D [] = some [false] := by
  have h1 := gd_0 (sm_gd hN) h
  obtain ⟨a1, a2, a3, a4⟩ := c0_o j.1.1 hN (av_0 h1)
  have k := ((sm_gd hN (avR T N (c0R T N n s))).2 h1 (av_j (c0_j j hN)).1.1).2 h
  obtain ⟨-, -, -, D, k1, k2⟩ := k
  refine ⟨a1, a2, a3, D, ?_, k2 []⟩
  have e := (av_ok a1 j.1.1).2.2.2.2
  unfold c1R
  rw [k1, a4, e]
theorem c2_o {T : Nat → Int32} {N n : Nat} {s : RS} (j : jR T N s) (hN : N ≤ 400) (h : (c2R T N n s).1 = 0) : (c1R T N n s).1 = 0 ∧ ((c2R T N n s).2.2.2 = (c1R T N n s).2.2.2 ∨ ∃ D, (c2R T N n s).2.2.2 = (c1R T N n s).2.2.2 ++ D ∧ rptL D [] = some [true]) := by
  unfold c2R at h ⊢
  by_cases c : (c1R T N n s).1 = 0 ∧ stW T N (c1R T N n s).2.1 (wdO 7)
  · rw [if_pos c] at h ⊢
    have h1 := gd_0 (te_gd hN 10) h
    obtain ⟨-, -, -, D, k1, k2⟩ := ((te_gd hN 10 (avR T N (c1R T N n s))).2 h1 (av_j (c1_j j hN)).1.1).2 h
    refine ⟨c.1, Or.inr ⟨D, ?_, k2 []⟩⟩
    rw [k1, (av_ok c.1 (c1_j j hN).1.1).2.2.2.2]
  · rw [if_neg c] at h ⊢
    exact ⟨h, Or.inl rfl⟩
theorem rpt_fr {c : Nat → Int32} {a : Nat} : ∀ {n : Nat} {t : List Bool}, rpt c a (n + 1) t = match rpt1 (c a) t with
    | none => none
    | some u => rpt c (a + 1) n u
  | 0, t => by
    rw [rpt, rpt]
    dsimp only
    rw [Nat.add_zero]
    cases rpt1 (c a) t with
    | none => rfl
    | some u => rfl
  | n + 1, t => by
    rw [rpt, rpt_fr]
    cases rpt1 (c a) t with
    | none => rfl
    | some u =>
      dsimp only
      rw [rpt, show a + (n + 1) = a + 1 + n by omega]
theorem rpt_L {c : Nat → Int32} : ∀ {D : List Int32} {a : Nat} {t : List Bool}, (∀ j, j < D.length → c (a + j) = D.getD j 0) → rpt c a D.length t = rptL D t
  | [], _, _, _ => rfl
  | x :: D, a, t, h => by
    rw [List.length_cons, rpt_fr, rptL]
    have h0 := h 0 (by rw [List.length_cons]; omega)
    rw [Nat.add_zero] at h0
    rw [h0]
    show (match rpt1 x t with | none => none | some u => rpt c (a + 1) D.length u) = _
    cases rpt1 x t with
    | none => rfl
    | some u =>
      exact rpt_L (fun j hj => by
        have := h (j + 1) (by rw [List.length_cons]; omega)
        rw [show a + 1 + j = a + (j + 1) by omega, this]; rfl)
theorem rpt_cg {c c' : Nat → Int32} {a : Nat} {t : List Bool} : ∀ {n : Nat}, (∀ j, j < n → c (a + j) = c' (a + j)) → rpt c a n t = rpt c' a n t
  | 0, _ => rfl
  | n + 1, h => by
    rw [rpt, rpt, rpt_cg (fun j hj => h j (by omega)), h n (by omega)]
def clOK (E : List Int32) (a b c : Nat) : Prop := a ≤ b ∧ b ≤ c ∧ c ≤ E.length ∧ rpt (fun j => E.getD j 0) a (b - a) [] = some [false] ∧ (b = c ∨ rpt (fun j => E.getD j 0) b (c - b) [] = some [true])
theorem clOK.ap {E D : List Int32} {a b c : Nat} (h : clOK E a b c) : clOK (E ++ D) a b c := by
  obtain ⟨h1, h2, h3, h4, h5⟩ := h
  refine ⟨h1, h2, by rw [List.length_append]; omega, ?_, h5.imp id (fun z => ?_)⟩
  · rw [← h4]; exact rpt_cg (fun j hj => gD_l (by omega))
  · rw [← z]; exact rpt_cg (fun j hj => gD_l (by omega))
theorem rpt_app {A D B : List Int32} {t : List Bool} : rpt (fun j => (A ++ D ++ B).getD j 0) A.length D.length t = rptL D t := rpt_L (fun j hj => by
  rw [gD_l (by rw [List.length_append]; omega), gD_r])
theorem clOK.nw {E D : List Int32} (h : rptL D [] = some [false]) : clOK (E ++ D) E.length (E ++ D).length (E ++ D).length := by
  have l := List.length_append (as := E) (bs := D)
  refine ⟨by omega, Nat.le_refl _, Nat.le_refl _, ?_, Or.inl rfl⟩
  have z := rpt_app (A := E) (D := D) (B := []) (t := [])
  rw [List.append_nil] at z
  rw [l, Nat.add_sub_cancel_left, z]; exact h
theorem clOK.nt {E D F : List Int32} (h : rptL D [] = some [false]) (k : rptL F [] = some [true]) : clOK (E ++ D ++ F) E.length (E ++ D).length (E ++ D ++ F).length := by
  have l := List.length_append (as := E) (bs := D)
  have l2 := List.length_append (as := E ++ D) (bs := F)
  refine ⟨by omega, by omega, Nat.le_refl _, ?_, Or.inr ?_⟩
  · rw [l, Nat.add_sub_cancel_left, rpt_app (A := E) (D := D) (B := F)]; exact h
  · have z := rpt_app (A := E ++ D) (D := F) (B := []) (t := [])
    rw [List.append_nil] at z
    rw [l2, Nat.add_sub_cancel_left, z]; exact k
theorem gs_e {T : Nat → Int32} {N : Nat} {s : RS} (o : okR T N s) (hN : N ≤ 400) : (gsR T N s).2.2.1 ≤ N ∨ ¬ s.1 = 0 := by
  by_cases f : s.1 = 0
  · exact Or.inl (sk_N (go_N (T := T) (N := N) (s := (s.1, s.2.1)) (o f).1 hN).1)
  · exact Or.inr f
theorem gs_j {T : Nat → Int32} {N : Nat} {s : RS} (j : jR T N s) (hN : N ≤ 400) : jR T N (gsR T N s).2 ∧ ((gsR T N s).1 = true → s.1 = 0 ∧ (gsR T N s).2.1 = 0) ∧ ((gsR T N s).2.1 = 0 → s.1 = 0) ∧ (gsR T N s).2.2.2 = s.2.2 := by
  by_cases f : s.1 = 0
  · have o := j.1.1 f
    obtain ⟨g1, g2, g3⟩ := go_N (T := T) (N := N) (s := (s.1, s.2.1)) o.1 hN
    have fp := go_fp (T := T) (N := N) (s := (s.1, s.2.1)) (Or.inl f) o.1 hN
    have mo : s.2.1 ≤ (gsR T N s).2.2.1 := by
      unfold gsR goS
      dsimp only
      rw [if_neg (fun z => z f), o.2.1]
      split
      · exact Nat.le_of_eq o.2.1.symm
      · split
        · exact Nat.le_trans (Nat.le_succ _) sp_le
        · exact Nat.le_of_eq o.2.1.symm
    refine ⟨⟨⟨fun z => ⟨sk_N g1, sk_sk, o.2.2⟩, fun z => ?_⟩, fp, fun z => j.2.2 f⟩, fun z => g2 z, fun z => g3 z, rfl⟩
    have k := j.1.2 f
    have e : (gsR T N s).2.2.2 = s.2.2 := rfl
    rw [e]
    omega
  · have e : goS T N (s.1, s.2.1) = (false, (s.1, s.2.1)) := by unfold goS; rw [if_pos f]
    unfold gsR
    rw [e]
    exact ⟨⟨⟨fun z => absurd z f, fun z => absurd z f⟩, j.2.1, fun z => absurd z f⟩, fun z => (nomatch z), fun z => z, rfl⟩
theorem itR_g {T : Nat → Int32} {N : Nat} (hN : N ≤ 400) : ∀ n, n ≤ 13 → jR T N (itR T N n).2.1 ∧ ((itR T N n).1 = true → (itR T N n).2.1.1 = 0 ∧ (itR T N n).2.2.1 = n ∧ n ≤ 12) ∧ ((itR T N n).2.1.1 = 0 → (itR T N n).2.2.1 ≤ 12 ∧ ∀ c, c < (itR T N n).2.2.1 → clOK (itR T N n).2.1.2.2.2 ((itR T N n).2.2.2.1 c) ((itR T N n).2.2.2.2.1 c) ((itR T N n).2.2.2.2.2 c))
  | 0, _ => ⟨⟨⟨fun _ => ⟨sk_N (Nat.zero_le N), sk_sk, Nat.zero_le _⟩, fun _ => Nat.zero_le _⟩, Or.inl rfl, fun _ => Nat.le_refl _⟩, fun _ => ⟨rfl, rfl, by decide⟩, fun _ => ⟨Nat.zero_le _, fun c hc => absurd hc (Nat.not_lt_zero c)⟩⟩
  | n + 1, hn => by
    obtain ⟨i1, i2, i3⟩ := itR_g (T := T) hN n (by omega)
    rw [itR]
    by_cases c : (itR T N n).1 = true
    · rw [if_pos c]
      obtain ⟨k1, k2, k3⟩ := i2 c
      generalize itR T N n = x at i1 i2 i3 k1 k2 ⊢
      have j2 := c2_j (n := n) i1 hN
      obtain ⟨g1, g2, g3, g4⟩ := gs_j j2 hN
      have E0 : (nxR T N n x).2.1 = (gsR T N (c2R T N n x.2.1)).2 := rfl
      have key : (c2R T N n x.2.1).1 = 0 → n ≤ 11 ∧ clOK (c2R T N n x.2.1).2.2.2 x.2.1.2.2.2.length (c1R T N n x.2.1).2.2.2.length (c2R T N n x.2.1).2.2.2.length ∧ ∃ D, (c2R T N n x.2.1).2.2.2 = x.2.1.2.2.2 ++ D := by
        intro f
        obtain ⟨f1, f2⟩ := c2_o i1 hN f
        obtain ⟨-, -, n12, D, e1, e2⟩ := c1_o i1 hN f1
        refine ⟨by omega, ?_⟩
        rcases f2 with f2 | ⟨D2, f2, f3⟩
        · rw [f2, e1]
          exact ⟨clOK.nw e2, D, rfl⟩
        · rw [f2, e1]
          exact ⟨clOK.nt e2 f3, D ++ D2, List.append_assoc _ _ _⟩
      refine ⟨g1, fun z => ?_, fun z => ?_⟩
      · obtain ⟨z1, z2⟩ := g2 z
        have := (key z1).1
        exact ⟨z2, by show x.2.2.1 + 1 = n + 1; rw [k2], by omega⟩
      · have z1 := g3 z
        obtain ⟨y1, y2, D, y3⟩ := key z1
        obtain ⟨x1, x2⟩ := i3 k1
        have e5 : (nxR T N n x).2.1.2.2.2 = (c2R T N n x.2.1).2.2.2 := congrArg Prod.snd g4
        refine ⟨by show x.2.2.1 + 1 ≤ 12; omega, fun c hc => ?_⟩
        rw [e5]
        have hc : c < x.2.2.1 + 1 := hc
        show clOK _ (jx_up x.2.2.2.1 n _ c) (jx_up x.2.2.2.2.1 n _ c) (jx_up x.2.2.2.2.2 n _ c)
        by_cases w : c = n
        · rw [w, jx_up_self, jx_up_self, jx_up_self]; exact y2
        · rw [jx_up_ne _ _ w, jx_up_ne _ _ w, jx_up_ne _ _ w, y3]
          exact (x2 c (by omega)).ap
    · rw [if_neg c]
      exact ⟨i1, fun z => absurd z c, i3⟩
theorem itR_st {T : Nat → Int32} {N n : Nat} (h : ¬ (itR T N n).1 = true) : ∀ k, itR T N (n + k) = itR T N n
  | 0 => rfl
  | k + 1 => by rw [show n + (k + 1) = n + k + 1 from rfl, itR, itR_st h k, if_neg h]
theorem itR_e {T : Nat → Int32} {N n : Nat} (hn : n ≤ 13) (h : ¬ (itR T N n).1 = true) : itR T N 13 = itR T N n := by
  have := itR_st h (13 - n)
  rw [show n + (13 - n) = 13 by omega] at this
  exact this
theorem itR_13 {T : Nat → Int32} {N : Nat} (hN : N ≤ 400) : ¬ (itR T N 13).1 = true := fun z => absurd ((itR_g hN 13 (by decide)).2.1 z).2.2 (by decide)
theorem c0R_cg {T U : Nat → Int32} {N : Nat} (e : ∀ j, j < N → T j = U j) (n : Nat) (s : RS) : c0R T N n s = c0R U N n s := by
  unfold c0R
  exact iq_cg (by rw [st_cg e]) rfl rfl
theorem c1R_cg {T U : Nat → Int32} {N : Nat} (e : ∀ j, j < N → T j = U j) (n : Nat) (s : RS) : c1R T N n s = c1R U N n s := by
  unfold c1R
  rw [c0R_cg e, smR_cg e, avR_cg e]
theorem c2R_cg {T U : Nat → Int32} {N : Nat} (e : ∀ j, j < N → T j = U j) (n : Nat) (s : RS) : c2R T N n s = c2R U N n s := by
  unfold c2R
  rw [c1R_cg e]
  exact iq_cg (by rw [st_cg e]) (by rw [teR_cg e, avR_cg e]) rfl
theorem itR_cg {T U : Nat → Int32} {N : Nat} (e : ∀ j, j < N → T j = U j) : ∀ n, itR T N n = itR U N n
  | 0 => by rw [itR, itR, sk_cg e]
  | n + 1 => by
    rw [itR, itR, itR_cg e n]
    unfold nxR gsR
    rw [c1R_cg e, c2R_cg e, go_cg e, sk_cg e]
theorem nn_tk {E : List Int32} : ∀ {n : Nat}, n ≤ E.length → fa_cnt (fun j => decide (¬ E.getD j 0 < 0)) n = nnL (E.take n)
  | 0, _ => rfl
  | n + 1, h => by
    have hn : E[n]? = some (E.getD n 0) := by
      rw [List.getD_eq_getElem?_getD, List.getElem?_eq_getElem (by omega)]; rfl
    rw [fa_cnt, nn_tk (by omega), List.take_succ, hn, nn_app]
    congr 1
    show _ = nnL [E.getD n 0]
    rw [nnL, nnL]
    by_cases c : E.getD n 0 < 0
    · rw [if_neg (by rw [decide_eq_true_eq]; exact fun z => z c), if_neg (fun z => z c)]
    · rw [if_pos (by rw [decide_eq_true_eq]; exact c), if_pos c]
def rulR (x : RC) : MR := ((x.2.2.1, x.2.1.2.2.2.length), fun j => x.2.1.2.2.2.getD j 0, x.2.2.2.1, x.2.2.2.2.1, x.2.2.2.2.2)
theorem rul_w0 {T : Nat → Int32} {N : Nat} {x : RC} (hN : N ≤ 400) (h : x.2.1.1 = 0) (i1 : jR T N x.2.1) (i4 : x.2.2.1 ≤ 12) (i5 : ∀ c, c < x.2.2.1 → clOK x.2.1.2.2.2 (x.2.2.2.1 c) (x.2.2.2.2.1 c) (x.2.2.2.2.2 c)) : wfR (rulR x) := by
  have l := i_len i1.1 hN h
  have c := (i1.1.1 h).2.2
  have q := i1.2.2 h
  refine ⟨i4, l, ?_, fun c hc => ?_⟩
  · show fa_cnt (fun j => decide (¬ x.2.1.2.2.2.getD j 0 < 0)) x.2.1.2.2.2.length ≤ 60
    rw [nn_tk (Nat.le_refl _), List.take_length]
    omega
  · obtain ⟨a1, a2, a3, a4, a5⟩ := i5 c hc
    exact ⟨a1, a2, a3, a4, a5⟩
theorem rul_wf {T : Nat → Int32} {N : Nat} (hN : N ≤ 400) (h : (itR T N 13).2.1.1 = 0) : wfR (rulR (itR T N 13)) := by
  obtain ⟨i1, -, i3⟩ := itR_g (T := T) hN 13 (by decide)
  obtain ⟨i4, i5⟩ := i3 h
  exact rul_w0 hN h i1 i4 i5
