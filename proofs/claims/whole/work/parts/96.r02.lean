/-! a rule told: bounds, loops, tapes alike -/
def adz (x : Int32) (s : RS) : RS := if x = 0 then s else adR x s
def pdX (x : Int32) : Nat := if x = 0 then 0 else 3
def kR (s : RS) : Prop := s.1 = 0 → 3 * s.2.2.2.length ≤ 6 * s.2.2.1 + s.2.1
def iR (T : Nat → Int32) (N : Nat) (s : RS) : Prop := okR T N s ∧ kR s
theorem gd_0 {T : Nat → Int32} {N : Nat} {y : Bool} {g : RS → RS} (hg : gdR T N y g) {s : RS} (h : (g s).1 = 0) : s.1 = 0 := by
  by_cases f : s.1 = 0
  · exact f
  · rw [(hg s).1 f] at h; exact h
theorem gd_i {T : Nat → Int32} {N : Nat} {y : Bool} {g : RS → RS} (hg : gdR T N y g) {s : RS} (i : iR T N s) : iR T N (g s) := by
  by_cases f : s.1 = 0
  · have G := (hg s).2 f i.1
    refine ⟨fun z => (G.2 z).1 z, fun z => ?_⟩
    have a1 := (G.2 z).2.2.1.2.2.1
    have a2 := i.2 f
    omega
  · rw [(hg s).1 f]; exact i
theorem i_len {T : Nat → Int32} {N : Nat} {s : RS} (i : iR T N s) (hN : N ≤ 400) (f : s.1 = 0) : s.2.2.2.length ≤ 253 := by
  have a1 := i.2 f
  have a2 := i.1 f
  omega
theorem av_i {T : Nat → Int32} {N : Nat} {s : RS} (i : iR T N s) : iR T N (avR T N s) := by
  by_cases f : s.1 = 0
  · obtain ⟨a1, a2, a3, a4, a5⟩ := av_ok f i.1
    refine ⟨a2, fun _ => ?_⟩
    have a6 := i.2 f
    rw [a5]
    omega
  · rw [av_f f]; exact i
theorem bl_nz {T : Nat → Int32} {N k : Nat} {s : RS} (o : okR T N s) (hN : N ≤ 400) (hk : k ≤ 4) : ¬ (blR k s).1 = 0 := by
  by_cases f : s.1 = 0
  · rw [bl_o f]; exact flt_nz (by have := (o f).1; omega) hk
  · rw [bl_f f]; exact f
theorem bl_i {T : Nat → Int32} {N k : Nat} {s : RS} (o : okR T N s) (hN : N ≤ 400) (hk : k ≤ 4) : iR T N (blR k s) := ⟨fun z => absurd z (bl_nz o hN hk), fun z => absurd z (bl_nz o hN hk)⟩
theorem cn_i {T : Nat → Int32} {N : Nat} {s : RS} (i : iR T N s) (hN : N ≤ 400) : iR T N (cnR s) := by
  by_cases f : s.1 = 0
  · have o := i.1 f
    have a6 := i.2 f
    by_cases c : 60 ≤ s.2.2.1
    · rw [cn_x f c]
      have nz : ¬ fltI s.2.1 3 = 0 := flt_nz (by omega) (by decide)
      exact ⟨fun z => absurd z nz, fun z => absurd z nz⟩
    · rw [cn_o f c]
      exact ⟨fun _ => ⟨o.1, o.2.1, by dsimp only; omega⟩, fun _ => by dsimp only; omega⟩
  · rw [cn_f f]; exact i
/-! one loop for two levels -/
def flI (T : Nat → Int32) (N : Nat) (g : RS → RS) (p q : Nat → Int32) (R : RS) (k : Nat) (x : RS × Int32 × Int32 × Bool) : Prop :=
  okR T N x.1 ∧ (x.1.1 = 0 → 3 * x.1.2.2.2.length + pdX x.2.1 + pdX x.2.2.1 ≤ 6 * x.1.2.2.1 + x.1.2.1) ∧
  (x.2.2.2 = true → (x.1.1 = 0 → k ≤ x.1.2.2.1) ∧ (¬ x.1.1 = 0 → k = 0) ∧ ∃ n m, 61 ≤ n + k ∧ 61 ≤ m + k ∧ R = lpR (avR T N) (trR (avR T N) g p) q m (adz x.2.2.1 (lpR (avR T N) g p n (adz x.2.1 (g x.1))))) ∧ (x.2.2.2 = false → R = x.1)
def opZ (p : Nat → Int32) (s : RS) : Int32 := if s.1 = 0 then p s.2.1 else 0
theorem az_0 {s : RS} : adz 0 s = s := if_pos rfl
theorem az_n {x : Int32} {s : RS} (h : ¬ x = 0) : adz x s = adR x s := if_neg h
theorem az_f {x : Int32} {s : RS} (h : ¬ s.1 = 0) : adz x s = s := by
  unfold adz
  split
  · rfl
  · exact ad_f h
theorem az_1 {x : Int32} {s : RS} : (adz x s).1 = s.1 := by
  unfold adz adR
  split
  · rfl
  · split
    · rfl
    · rfl
theorem az_b {x : Int32} {s : RS} : (adz x s).2.1 = s.2.1 ∧ (adz x s).2.2.1 = s.2.2.1 ∧ (s.1 = 0 → 3 * (adz x s).2.2.2.length = 3 * s.2.2.2.length + pdX x) := by
  unfold adz adR pdX
  split
  · exact ⟨rfl, rfl, fun _ => rfl⟩
  · split
    · refine ⟨rfl, rfl, fun _ => ?_⟩
      dsimp only
      rw [List.length_append, List.length_singleton]
      omega
    · rename_i h
      exact ⟨rfl, rfl, fun z => absurd z h⟩
theorem fl_0 {T : Nat → Int32} {N : Nat} {g : RS → RS} {p q : Nat → Int32} {s : RS} (i : iR T N s) : flI T N g p q (smG (avR T N) g p q s) 0 (s, 0, 0, true) := by
  refine ⟨i.1, fun f => ?_, fun _ => ⟨fun _ => Nat.zero_le _, fun _ => rfl, 61, 61, by decide, by decide, ?_⟩, fun z => nomatch z⟩
  · have := i.2 f
    have e : pdX 0 = 0 := rfl
    dsimp only
    omega
  · dsimp only
    rw [az_0, az_0]
    rfl
section FL
variable {T : Nat → Int32} {N : Nat} {y : Bool} {g : RS → RS} {p q : Nat → Int32} {R : RS} {k : Nat} {s : RS} {pr su : Int32}
theorem fl_g (hg : gdR T N y g) (hN : N ≤ 400) (I : flI T N g p q R k (s, pr, su, true)) : okR T N (g s) ∧ ((g s).1 = 0 → s.1 = 0 ∧ k + 1 ≤ (g s).2.2.1 ∧ 3 * (g s).2.2.2.length + 3 + pdX pr + pdX su ≤ 6 * (g s).2.2.1 + (g s).2.1) := by
  by_cases f : s.1 = 0
  · have G := (hg s).2 f I.1
    refine ⟨fun z => (G.2 z).1 z, fun z => ⟨f, ?_, ?_⟩⟩
    · have a1 := (G.2 z).2.1
      have a2 := (I.2.2.1 rfl).1 f
      dsimp only at a2
      omega
    · have a1 := (G.2 z).2.2.1.2.2.1
      have a2 := I.2.1 f
      dsimp only at a2
      omega
  · rw [(hg s).1 f]
    exact ⟨I.1, fun z => absurd z f⟩
theorem fl_a (hg : gdR T N y g) (hN : N ≤ 400) (I : flI T N g p q R k (s, pr, su, true)) : okR T N (adz pr (g s)) ∧ ((adz pr (g s)).1 = 0 → s.1 = 0 ∧ k + 1 ≤ (adz pr (g s)).2.2.1 ∧ 3 * (adz pr (g s)).2.2.2.length + 3 + pdX su ≤ 6 * (adz pr (g s)).2.2.1 + (adz pr (g s)).2.1) := by
  obtain ⟨G1, G2⟩ := fl_g hg hN I
  obtain ⟨b1, b2, b3⟩ := az_b (x := pr) (s := g s)
  refine ⟨fun z => ?_, fun z => ?_⟩
  · rw [az_1] at z
    rw [b1, b2]
    exact G1 z
  · rw [az_1] at z
    have b4 := b3 z
    obtain ⟨c1, c2, c3⟩ := G2 z
    rw [b1, b2]
    exact ⟨c1, c2, by omega⟩
theorem fl_b (hg : gdR T N y g) (hN : N ≤ 400) (I : flI T N g p q R k (s, pr, su, true)) : okR T N (adz su (adz pr (g s))) ∧ ((adz su (adz pr (g s))).1 = 0 → s.1 = 0 ∧ k + 1 ≤ (adz su (adz pr (g s))).2.2.1 ∧ 3 * (adz su (adz pr (g s))).2.2.2.length + 3 ≤ 6 * (adz su (adz pr (g s))).2.2.1 + (adz su (adz pr (g s))).2.1) := by
  obtain ⟨G1, G2⟩ := fl_a hg hN I
  obtain ⟨b1, b2, b3⟩ := az_b (x := su) (s := adz pr (g s))
  refine ⟨fun z => ?_, fun z => ?_⟩
  · rw [az_1] at z
    rw [b1, b2]
    exact G1 z
  · rw [az_1] at z
    have b4 := b3 z
    obtain ⟨c1, c2, c3⟩ := G2 z
    rw [b1, b2]
    exact ⟨c1, c2, by omega⟩
theorem fl_ln (hg : gdR T N y g) (hN : N ≤ 400) (I : flI T N g p q R k (s, pr, su, true)) : ((g s).1 = 0 → (g s).2.2.2.length < 400) ∧ ((adz pr (g s)).1 = 0 → (adz pr (g s)).2.2.2.length < 400) := by
  refine ⟨fun z => ?_, fun z => ?_⟩
  · have a1 := (fl_g hg hN I).2 z
    have a2 := (fl_g hg hN I).1 z
    omega
  · have a1 := (fl_a hg hN I).2 z
    have a2 := (fl_a hg hN I).1 z
    omega
theorem pd_le {x : Int32} : pdX x ≤ 3 := by
  unfold pdX
  split <;> omega
theorem fl_A (hg : gdR T N y g) (hN : N ≤ 400) (hk : k < 61) (I : flI T N g p q R k (s, pr, su, true)) (c : ¬ opZ p (adz pr (g s)) = 0) : flI T N g p q R (k + 1) (avR T N (adz pr (g s)), opZ p (adz pr (g s)), su, true) := by
  obtain ⟨A1, A2⟩ := fl_a hg hN I
  obtain ⟨-, -, n, m, hn, hm, hR⟩ := I.2.2.1 rfl
  dsimp only at hR
  generalize adz pr (g s) = u at A1 A2 c hR ⊢
  have f : u.1 = 0 := by
    by_cases z : u.1 = 0
    · exact z
    · exact absurd (if_neg z) c
  have eo : opZ p u = p u.2.1 := if_pos f
  rw [eo] at c ⊢
  obtain ⟨a1, a2, a3, a4, a5⟩ := av_ok f A1
  obtain ⟨c1, c2, c3⟩ := A2 f
  refine ⟨a2, fun _ => ?_, fun _ => ⟨fun _ => by dsimp only; rw [a5]; exact c2, fun z => absurd a1 z, n - 1, m, by omega, by omega, ?_⟩, fun z => nomatch z⟩
  · have := pd_le (x := p u.2.1)
    dsimp only
    rw [a5]
    omega
  · have en : n = (n - 1) + 1 := by omega
    rw [hR, en, lpR, if_pos ⟨f, c⟩]
    dsimp only
    rw [az_n c, Nat.add_sub_cancel]
theorem fl_s (hk : k < 61) (I : flI T N g p q R k (s, pr, su, true)) (c : opZ p (adz pr (g s)) = 0) : ∃ m, 61 ≤ m + k ∧ R = lpR (avR T N) (trR (avR T N) g p) q m (adz su (adz pr (g s))) := by
  obtain ⟨-, -, n, m, hn, hm, hR⟩ := I.2.2.1 rfl
  dsimp only at hR
  generalize adz pr (g s) = u at c hR ⊢
  have en : n = (n - 1) + 1 := by omega
  refine ⟨m, hm, ?_⟩
  rw [hR, en, lpR, if_neg]
  intro z
  exact z.2 (by rw [← c]; exact (if_pos z.1).symm)
theorem fl_B (hg : gdR T N y g) (hN : N ≤ 400) (hk : k < 61) (I : flI T N g p q R k (s, pr, su, true)) (c : opZ p (adz pr (g s)) = 0) (c2 : ¬ opZ q (adz su (adz pr (g s))) = 0) : flI T N g p q R (k + 1) (avR T N (adz su (adz pr (g s))), 0, opZ q (adz su (adz pr (g s))), true) := by
  obtain ⟨A1, A2⟩ := fl_b hg hN I
  obtain ⟨m, hm, hR⟩ := fl_s hk I c
  generalize adz su (adz pr (g s)) = u at A1 A2 c2 hR ⊢
  have f : u.1 = 0 := by
    by_cases z : u.1 = 0
    · exact z
    · exact absurd (if_neg z) c2
  have eo : opZ q u = q u.2.1 := if_pos f
  rw [eo] at c2 ⊢
  obtain ⟨a1, a2, a3, a4, a5⟩ := av_ok f A1
  obtain ⟨d1, d2, d3⟩ := A2 f
  refine ⟨a2, fun _ => ?_, fun _ => ⟨fun _ => by dsimp only; rw [a5]; exact d2, fun z => absurd a1 z, 61, m - 1, by omega, by omega, ?_⟩, fun z => nomatch z⟩
  · have := pd_le (x := q u.2.1)
    have e : pdX 0 = 0 := rfl
    dsimp only
    rw [a5]
    omega
  · have em : m = (m - 1) + 1 := by omega
    rw [hR, em, lpR, if_pos ⟨f, c2⟩]
    dsimp only
    rw [az_n c2, az_0, Nat.add_sub_cancel]
    rfl
theorem fl_C (hg : gdR T N y g) (hN : N ≤ 400) (hk : k < 61) (I : flI T N g p q R k (s, pr, su, true)) (c : opZ p (adz pr (g s)) = 0) (c2 : opZ q (adz su (adz pr (g s))) = 0) : flI T N g p q R (k + 1) (adz su (adz pr (g s)), 0, 0, false) := by
  obtain ⟨A1, A2⟩ := fl_b hg hN I
  obtain ⟨m, hm, hR⟩ := fl_s hk I c
  generalize adz su (adz pr (g s)) = u at A1 A2 c2 hR ⊢
  refine ⟨A1, fun f => ?_, fun z => (nomatch z), fun _ => ?_⟩
  · obtain ⟨d1, d2, d3⟩ := A2 f
    have e : pdX 0 = 0 := rfl
    dsimp only
    omega
  · have em : m = (m - 1) + 1 := by omega
    rw [hR, em, lpR, if_neg]
    intro z
    exact z.2 (by rw [← c2]; exact (if_pos z.1).symm)
theorem fl_61 (I : flI T N g p q R 61 (s, pr, su, true)) : False := by
  obtain ⟨a1, a2, -⟩ := I.2.2.1 rfl
  by_cases f : s.1 = 0
  · have b1 := a1 f
    have b2 := (I.1 f).2.2
    dsimp only at b1 b2
    omega
  · exact absurd (a2 f) (by decide)
end FL
/-! tapes alike -/
section CG
variable {T U : Nat → Int32} {N : Nat} (e : ∀ j, j < N → T j = U j)
theorem ts_cg (e : ∀ j, j < N → T j = U j) (b : Nat) : tkS T N b = tkS U N b := by
  unfold tkS
  by_cases hb : N ≤ b
  · rw [if_pos hb, if_pos hb]
  · have e1 := e b (by omega)
    have j1 : jnB T N b = jnB U N b := by
      unfold jnB
      by_cases z : b + 1 < N
      · rw [e1, e (b + 1) z]
      · rw [decide_eq_decide]
        exact ⟨fun y => absurd y.2.1 z, fun y => absurd y.2.1 z⟩
    rw [if_neg hb, if_neg hb, e1, j1]
theorem avR_cg (e : ∀ j, j < N → T j = U j) : avR T N = avR U N := by
  funext s
  unfold avR
  rw [tk_cg e, sk_cg e]
theorem kwR_cg (e : ∀ j, j < N → T j = U j) (b : Nat) : kwR T N b = kwR U N b := spF_cg (fun j _ => by show decide _ = decide _; rw [decide_eq_decide, st_cg e]) _ 0 (Nat.le_refl _)
theorem le_cg (e : ∀ j, j < N → T j = U j) (b : Nat) : (b < N ∧ isLt_ (T b) = true) ↔ (b < N ∧ isLt_ (U b) = true) := ⟨fun z => ⟨z.1, by rw [← e b z.1]; exact z.2⟩, fun z => ⟨z.1, by rw [e b z.1]; exact z.2⟩⟩
theorem vaR_cg (e : ∀ j, j < N → T j = U j) : vaR T N = vaR U N := by
  funext s
  have h1 : vkR T N s.2.1 = vkR U N s.2.1 := by
    unfold vkR
    rw [kwR_cg e, nbK_cg e]
    by_cases c : s.2.1 < N ∧ isLt_ (T s.2.1) = true
    · rw [if_pos c, if_pos ((le_cg e _).mp c)]
    · rw [if_neg c, if_neg (fun z => c ((le_cg e _).mpr z))]
  have h2 : vxR T N s.2.1 = vxR U N s.2.1 := by
    unfold vxR
    rw [kwR_cg e, vf_cg e]
    by_cases c : s.2.1 < N ∧ isLt_ (T s.2.1) = true
    · rw [if_pos c, if_pos ((le_cg e _).mp c)]
    · rw [if_neg c, if_neg (fun z => c ((le_cg e _).mpr z))]
  unfold vaR
  rw [h1, h2, avR_cg e]
theorem prR_cg (e : ∀ j, j < N → T j = U j) : prR T N = prR U N := by funext b; unfold prR; rw [ts_cg e]
theorem suR_cg (e : ∀ j, j < N → T j = U j) : suR T N = suR U N := by funext b; unfold suR; rw [ts_cg e]
theorem cmR_cg (e : ∀ j, j < N → T j = U j) : cmR T N = cmR U N := by funext b; unfold cmR; rw [ts_cg e]
theorem iw_cg {P Q : Prop} {_ : Decidable P} {_ : Decidable Q} (h : P ↔ Q) (x y : Int32) : (if P then x else y) = (if Q then x else y) := by
  by_cases c : P
  · rw [if_pos c, if_pos (h.mp c)]
  · rw [if_neg c, if_neg (fun z => c (h.mpr z))]
theorem anR_cg (e : ∀ j, j < N → T j = U j) : anR T N = anR U N := by funext b; unfold anR; exact iw_cg (st_cg e b _) _ _
theorem orR_cg (e : ∀ j, j < N → T j = U j) : orR T N = orR U N := by funext b; unfold orR; exact iw_cg (st_cg e b _) _ _
theorem smR_cg (e : ∀ j, j < N → T j = U j) : smR T N = smR U N := by unfold smR; rw [avR_cg e, vaR_cg e, prR_cg e, suR_cg e]
theorem cpR_cg (e : ∀ j, j < N → T j = U j) : cpR T N = cpR U N := by funext s; unfold cpR; rw [smR_cg e, cmR_cg e, avR_cg e]
theorem clR_cg (e : ∀ j, j < N → T j = U j) : clR T N = clR U N := by funext s; unfold clR; rw [ts_cg e, avR_cg e]
theorem iq_cg {P Q : Prop} {_ : Decidable P} {_ : Decidable Q} (h : P ↔ Q) {x x' y y' : RS} (h1 : x = x') (h2 : y = y') : (if P then x else y) = (if Q then x' else y') := by
  subst h1; subst h2
  by_cases c : P
  · rw [if_pos c, if_pos (h.mp c)]
  · rw [if_neg c, if_neg (fun z => c (h.mpr z))]
theorem fcR_cg (e : ∀ j, j < N → T j = U j) : ∀ r, fcR T N r = fcR U N r
  | 0 => by
    funext s
    rw [fcR, fcR]
    exact iq_cg (by rw [st_cg e, ts_cg e]) rfl (by rw [cpR_cg e])
  | r + 1 => by
    funext s
    rw [fcR, fcR]
    refine iq_cg (by rw [st_cg e]) (by rw [fcR_cg e r, avR_cg e]) (iq_cg (by rw [ts_cg e]) (by rw [clR_cg e, fcR_cg e r, avR_cg e, anR_cg e, orR_cg e]) (by rw [cpR_cg e]))
theorem teR_cg (e : ∀ j, j < N → T j = U j) (r : Nat) : teR T N r = teR U N r := by unfold teR; rw [fcR_cg e r, avR_cg e, anR_cg e, orR_cg e]
end CG
