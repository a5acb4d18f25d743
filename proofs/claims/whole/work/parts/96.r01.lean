/-! a rule told: what is read -/
/-- what is read so far: fault, where, how many are counted, the code -/
abbrev RS : Type := Int32 × Nat × Nat × List Int32
def adR (x : Int32) (s : RS) : RS := if s.1 = 0 then (s.1, s.2.1, s.2.2.1, s.2.2.2 ++ [x]) else s
def blR (k : Nat) (s : RS) : RS := if s.1 = 0 then (fltI s.2.1 k, s.2) else s
def cnR (s : RS) : RS := if s.1 = 0 then (if 60 ≤ s.2.2.1 then (fltI s.2.1 3, s.2) else (s.1, s.2.1, s.2.2.1 + 1, s.2.2.2)) else s
def lpR (av : RS → RS) (g : RS → RS) (op : Nat → Int32) : Nat → RS → RS
  | 0, s => s
  | n + 1, s => if s.1 = 0 ∧ ¬ op s.2.1 = 0 then lpR av g op n (adR (op s.2.1) (g (av s))) else s
def trR (av : RS → RS) (g : RS → RS) (op : Nat → Int32) (s : RS) : RS := lpR av g op 61 (g s)
def smG (av : RS → RS) (g : RS → RS) (p q : Nat → Int32) (s : RS) : RS := trR av (trR av g p) q s
def prX (x : Int32) : Int32 := if x = 37 then -5 else if x = 42 then -3 else if x = 47 then -4 else 0
def suX (x : Int32) : Int32 := if x = 43 then -1 else if x = 45 then -2 else 0
def cmX (x : Int32) : Int32 := if x = 60 then -6 else if x = 61 then -8 else if x = 62 then -10 else if x = 258 then -7 else if x = 259 then -9 else 0
section RR
variable (T : Nat → Int32) (N : Nat)
def avR (s : RS) : RS := if s.1 = 0 then (s.1, skB T N (tkE T N s.2.1), s.2.2) else s
def kwR (b : Nat) : Nat := spF (fun k => decide (¬ stW T N b (wdO (11 + k)))) 12 0
def vkR (b : Nat) : Option Nat := if b < N ∧ isLt_ (T b) = true then (if kwR T N b = 12 then some 0 else none) else nbK T N b 0 99999
def vxR (b : Nat) : Int32 := if b < N ∧ isLt_ (T b) = true then nI (100000 + kwR T N b) else nI (vlN T b (fv5 (dgs T N b)))
def vaR (s : RS) : RS := match vkR T N s.2.1 with
  | some k => blR k s
  | none => adR (vxR T N s.2.1) (avR T N (cnR s))
def prR (b : Nat) : Int32 := prX (tkS T N b)
def suR (b : Nat) : Int32 := suX (tkS T N b)
def cmR (b : Nat) : Int32 := cmX (tkS T N b)
def anR (b : Nat) : Int32 := if stW T N b (wdO 8) then -11 else 0
def orR (b : Nat) : Int32 := if stW T N b (wdO 9) then -12 else 0
def smR : RS → RS := smG (avR T N) (vaR T N) (prR T N) (suR T N)
def cpR (s : RS) : RS := if (smR T N s).1 = 0 ∧ cmR T N (smR T N s).2.1 = 0 then blR 0 (smR T N s) else adR (cmR T N (smR T N s).2.1) (smR T N (avR T N (cnR (smR T N s))))
def clR (s : RS) : RS := if tkS T N s.2.1 = 93 then avR T N s else blR 0 s
def fcR : Nat → RS → RS
  | 0, s => if s.1 = 0 ∧ (stW T N s.2.1 (wdO 10) ∨ tkS T N s.2.1 = 91) then blR 2 s else cpR T N s
  | r + 1, s => if s.1 = 0 ∧ stW T N s.2.1 (wdO 10) then adR (-13) (fcR r (avR T N s)) else if s.1 = 0 ∧ tkS T N s.2.1 = 91 then clR T N (smG (avR T N) (fcR r) (anR T N) (orR T N) (avR T N s)) else cpR T N s
def teR (r : Nat) : RS → RS := smG (avR T N) (fcR T N r) (anR T N) (orR T N)
end RR
/-! behind a fault nothing is read -/
theorem ad_f {x : Int32} {s : RS} (h : ¬ s.1 = 0) : adR x s = s := if_neg h
theorem bl_f {k : Nat} {s : RS} (h : ¬ s.1 = 0) : blR k s = s := if_neg h
theorem cn_f {s : RS} (h : ¬ s.1 = 0) : cnR s = s := if_neg h
theorem av_f {T : Nat → Int32} {N : Nat} {s : RS} (h : ¬ s.1 = 0) : avR T N s = s := if_neg h
theorem lp_f {av g : RS → RS} {op : Nat → Int32} {s : RS} (h : ¬ s.1 = 0) : ∀ n, lpR av g op n s = s
  | 0 => rfl
  | _ + 1 => if_neg (fun z => h z.1)
theorem tr_f {av g : RS → RS} {op : Nat → Int32} {s : RS} (hg : g s = s) (h : ¬ s.1 = 0) : trR av g op s = s := by
  unfold trR
  rw [hg, lp_f h]
theorem sm_f0 {av g : RS → RS} {p q : Nat → Int32} {s : RS} (hg : g s = s) (h : ¬ s.1 = 0) : smG av g p q s = s := tr_f (tr_f hg h) h
theorem va_f {T : Nat → Int32} {N : Nat} {s : RS} (h : ¬ s.1 = 0) : vaR T N s = s := by
  unfold vaR
  split
  · exact bl_f h
  · rw [cn_f h, av_f h, ad_f h]
theorem sm_f {T : Nat → Int32} {N : Nat} {s : RS} (h : ¬ s.1 = 0) : smR T N s = s := sm_f0 (va_f h) h
theorem cp_f {T : Nat → Int32} {N : Nat} {s : RS} (h : ¬ s.1 = 0) : cpR T N s = s := by
  unfold cpR
  rw [sm_f h, if_neg (fun z => h z.1), cn_f h, av_f h, sm_f h, ad_f h]
theorem fc_f {T : Nat → Int32} {N : Nat} {s : RS} (h : ¬ s.1 = 0) : ∀ r, fcR T N r s = s
  | 0 => by rw [fcR, if_neg (fun z => h z.1), cp_f h]
  | r + 1 => by rw [fcR, if_neg (fun z => h z.1), if_neg (fun z => h z.1), cp_f h]
theorem te_f {T : Nat → Int32} {N r : Nat} {s : RS} (h : ¬ s.1 = 0) : teR T N r s = s := sm_f0 (fc_f h r) h
theorem ad_o {x : Int32} {s : RS} (h : s.1 = 0) : adR x s = (0, s.2.1, s.2.2.1, s.2.2.2 ++ [x]) := by unfold adR; rw [if_pos h, h]
theorem bl_o {k : Nat} {s : RS} (h : s.1 = 0) : blR k s = (fltI s.2.1 k, s.2) := if_pos h
theorem cn_o {s : RS} (h : s.1 = 0) (c : ¬ 60 ≤ s.2.2.1) : cnR s = (0, s.2.1, s.2.2.1 + 1, s.2.2.2) := by unfold cnR; rw [if_pos h, if_neg c, h]
theorem cn_x {s : RS} (h : s.1 = 0) (c : 60 ≤ s.2.2.1) : cnR s = (fltI s.2.1 3, s.2) := by unfold cnR; rw [if_pos h, if_pos c]
theorem av_o {T : Nat → Int32} {N : Nat} {s : RS} (h : s.1 = 0) : avR T N s = (0, skB T N (tkE T N s.2.1), s.2.2) := by unfold avR; rw [if_pos h, h]
/-! stacks of code -/
def rptL : List Int32 → List Bool → Option (List Bool)
  | [], t => some t
  | x :: D, t => match rpt1 x t with
    | none => none
    | some u => rptL D u
theorem rL_tr : ∀ {A B : List Int32} {t u : List Bool} {v : Option (List Bool)}, rptL A t = some u → rptL B u = v → rptL (A ++ B) t = v
  | [], _, _, _, _, h1, h2 => by
    rw [rptL] at h1
    injection h1 with h1
    rw [List.nil_append, h1]; exact h2
  | x :: A, B, t, u, v, h1, h2 => by
    rw [rptL] at h1
    rw [List.cons_append, rptL]
    cases hx : rpt1 x t with
    | none => rw [hx] at h1; exact absurd h1 (by simp)
    | some w =>
      rw [hx] at h1
      exact rL_tr (A := A) h1 h2
theorem rL_1 {x : Int32} {t u : List Bool} (h : rpt1 x t = some u) : rptL [x] t = some u := by
  rw [rptL, h]; rfl
def nnL : List Int32 → Nat
  | [] => 0
  | x :: l => (if ¬ x < 0 then 1 else 0) + nnL l
theorem nn_app : ∀ {A B : List Int32}, nnL (A ++ B) = nnL A + nnL B
  | [], B => by rw [List.nil_append, nnL, Nat.zero_add]
  | x :: A, B => by rw [List.cons_append, nnL, nnL, nn_app, Nat.add_assoc]
theorem nn_1 {x : Int32} (h : x < 0) : nnL [x] = 0 := by rw [nnL, nnL, if_neg (fun z => z h)]
theorem nn_2 {x : Int32} : nnL [x] ≤ 1 := by
  rw [nnL, nnL]
  split <;> omega
def fpI (x : Int32) : Prop := x = 0 ∨ 0 < x
theorem fpI_f {b c : Nat} (hb : b ≤ 400) (hc : c ≤ 4) : fpI (fltI b c) := fp_f (q := 0) hb hc
section GD
variable (T : Nat → Int32) (N : Nat)
def okR (s : RS) : Prop := s.1 = 0 → s.2.1 ≤ N ∧ skB T N s.2.1 = s.2.1 ∧ s.2.2.1 ≤ 60
def stR (m : Nat) (s s' : RS) : Prop := s.2.1 ≤ s'.2.1 ∧ s.2.2.1 ≤ s'.2.2.1 ∧ 3 * s'.2.2.2.length + 6 * s.2.2.1 + s.2.1 + m ≤ 3 * s.2.2.2.length + 6 * s'.2.2.1 + s'.2.1 ∧ nnL s'.2.2.2 + s.2.2.1 ≤ nnL s.2.2.2 + s'.2.2.1
def gdR (y : Bool) (g : RS → RS) : Prop := ∀ s, (¬ s.1 = 0 → g s = s) ∧ (s.1 = 0 → okR T N s → fpI (g s).1 ∧ ((g s).1 = 0 → okR T N (g s) ∧ s.2.2.1 < (g s).2.2.1 ∧ stR 3 s (g s) ∧ ∃ D, (g s).2.2.2 = s.2.2.2 ++ D ∧ ∀ t, rptL D t = some (y :: t)))
end GD
def jvR (y : Bool) (op : Nat → Int32) : Prop := ∀ b, ¬ op b = 0 → op b < 0 ∧ ∀ t, rpt1 (op b) (y :: y :: t) = some (y :: t)
theorem sk_sk {T : Nat → Int32} {N p : Nat} : skB T N (skB T N p) = skB T N p := sp_st sp_out
theorem av_ok {T : Nat → Int32} {N : Nat} {s : RS} (h : s.1 = 0) (o : okR T N s) : (avR T N s).1 = 0 ∧ okR T N (avR T N s) ∧ tkE T N s.2.1 ≤ (avR T N s).2.1 ∧ s.2.1 ≤ tkE T N s.2.1 ∧ (avR T N s).2.2 = s.2.2 := by
  have o1 := o h
  have t := tk_N (T := T) o1.1
  rw [av_o h]
  exact ⟨rfl, fun _ => ⟨sk_N t.2, sk_sk, o1.2.2⟩, sp_le, t.1, rfl⟩
theorem lp_gd {T : Nat → Int32} {N : Nat} {y : Bool} {g : RS → RS} {op : Nat → Int32} (hg : gdR T N y g) (hj : jvR y op) : ∀ n s, s.1 = 0 → okR T N s → fpI (lpR (avR T N) g op n s).1 ∧ ((lpR (avR T N) g op n s).1 = 0 → okR T N (lpR (avR T N) g op n s) ∧ stR 0 s (lpR (avR T N) g op n s) ∧ ∃ D, (lpR (avR T N) g op n s).2.2.2 = s.2.2.2 ++ D ∧ ∀ t, rptL D (y :: t) = some (y :: t))
  | 0, s, h, o => ⟨Or.inl h, fun _ => ⟨o, ⟨Nat.le_refl _, Nat.le_refl _, Nat.le_refl _, Nat.le_refl _⟩, [], (List.append_nil _).symm, fun _ => rfl⟩⟩
  | n + 1, s, h, o => by
    rw [lpR]
    by_cases c : s.1 = 0 ∧ ¬ op s.2.1 = 0
    · rw [if_pos c]
      obtain ⟨a1, a2, a3, a4, a5⟩ := av_ok h o
      obtain ⟨j1, j2⟩ := hj _ c.2
      have G := (hg (avR T N s)).2 a1 a2
      by_cases f : (g (avR T N s)).1 = 0
      · obtain ⟨g1, g2, ⟨g3, g4, g5, g6⟩, D, g7, g8⟩ := G.2 f
        have o1 := g1 f
        rw [ad_o f]
        have I := lp_gd hg hj n (0, (g (avR T N s)).2.1, (g (avR T N s)).2.2.1, (g (avR T N s)).2.2.2 ++ [op s.2.1]) rfl (fun _ => o1)
        refine ⟨I.1, fun z => ?_⟩
        obtain ⟨i1, ⟨i2, i3, i4, i5⟩, D2, i6, i7⟩ := I.2 z
        refine ⟨i1, ⟨?_, ?_, ?_, ?_⟩, D ++ [op s.2.1] ++ D2, ?_, fun t => ?_⟩
        · dsimp only at i2; omega
        · dsimp only at i3; rw [a5] at g4 g2; omega
        · dsimp only at i4
          rw [List.length_append, List.length_singleton] at i4
          rw [a5] at g5
          omega
        · dsimp only at i5
          rw [nn_app, nn_1 j1] at i5
          rw [a5] at g6
          omega
        · rw [i6]
          dsimp only
          rw [g7, a5, List.append_assoc, List.append_assoc, List.append_assoc]
        · exact rL_tr (rL_tr (g8 (y :: t)) (rL_1 (j2 t))) (i7 t)
      · rw [ad_f f, lp_f f]
        exact ⟨G.1, fun z => absurd z f⟩
    · rw [if_neg c]
      exact ⟨Or.inl h, fun _ => ⟨o, ⟨Nat.le_refl _, Nat.le_refl _, Nat.le_refl _, Nat.le_refl _⟩, [], (List.append_nil _).symm, fun _ => rfl⟩⟩
theorem tr_gd {T : Nat → Int32} {N : Nat} {y : Bool} {g : RS → RS} {op : Nat → Int32} (hg : gdR T N y g) (hj : jvR y op) : gdR T N y (trR (avR T N) g op) := by
  intro s
  refine ⟨fun h => tr_f ((hg s).1 h) h, fun h o => ?_⟩
  unfold trR
  have G := (hg s).2 h o
  by_cases f : (g s).1 = 0
  · obtain ⟨g1, g2, ⟨g3, g4, g5, g6⟩, D, g7, g8⟩ := G.2 f
    have I := lp_gd hg hj 61 (g s) f g1
    refine ⟨I.1, fun z => ?_⟩
    obtain ⟨i1, ⟨i2, i3, i4, i5⟩, D2, i6, i7⟩ := I.2 z
    exact ⟨i1, by omega, ⟨by omega, by omega, by omega, by omega⟩, D ++ D2, by rw [i6, g7, List.append_assoc], fun t => rL_tr (g8 t) (i7 t)⟩
  · rw [lp_f f]
    exact ⟨G.1, fun z => absurd z f⟩
theorem smG_gd {T : Nat → Int32} {N : Nat} {y : Bool} {g : RS → RS} {p q : Nat → Int32} (hg : gdR T N y g) (hp : jvR y p) (hq : jvR y q) : gdR T N y (smG (avR T N) g p q) := tr_gd (tr_gd hg hp) hq
theorem jn_pr {T : Nat → Int32} {N : Nat} : jvR false (prR T N) := by
  intro b h
  unfold prR prX at h ⊢
  split
  · exact ⟨by decide, fun t => rfl⟩
  · split
    · exact ⟨by decide, fun t => rfl⟩
    · split
      · exact ⟨by decide, fun t => rfl⟩
      · rename_i h1 h2 h3
        rw [if_neg h1, if_neg h2, if_neg h3] at h
        exact absurd rfl h
theorem jn_su {T : Nat → Int32} {N : Nat} : jvR false (suR T N) := by
  intro b h
  unfold suR suX at h ⊢
  split
  · exact ⟨by decide, fun t => rfl⟩
  · split
    · exact ⟨by decide, fun t => rfl⟩
    · rename_i h1 h2
      rw [if_neg h1, if_neg h2] at h
      exact absurd rfl h
theorem jn_an {T : Nat → Int32} {N : Nat} : jvR true (anR T N) := by
  intro b h
  unfold anR at h ⊢
  split
  · exact ⟨by decide, fun t => rfl⟩
  · rename_i h1
    rw [if_neg h1] at h
    exact absurd rfl h
theorem jn_or {T : Nat → Int32} {N : Nat} : jvR true (orR T N) := by
  intro b h
  unfold orR at h ⊢
  split
  · exact ⟨by decide, fun t => rfl⟩
  · rename_i h1
    rw [if_neg h1] at h
    exact absurd rfl h
theorem cm_j {T : Nat → Int32} {N b : Nat} (h : ¬ cmR T N b = 0) : cmR T N b < 0 ∧ ∀ t, rpt1 (cmR T N b) (false :: false :: t) = some (true :: t) := by
  unfold cmR cmX at h ⊢
  split
  · exact ⟨by decide, fun t => rfl⟩
  · split
    · exact ⟨by decide, fun t => rfl⟩
    · split
      · exact ⟨by decide, fun t => rfl⟩
      · split
        · exact ⟨by decide, fun t => rfl⟩
        · split
          · exact ⟨by decide, fun t => rfl⟩
          · rename_i h1 h2 h3 h4 h5
            rw [if_neg h1, if_neg h2, if_neg h3, if_neg h4, if_neg h5] at h
            exact absurd rfl h
theorem kw_le {T : Nat → Int32} {N b : Nat} : kwR T N b ≤ 12 := sp_N (by decide)
theorem vk_c {T : Nat → Int32} {N b k : Nat} (h : vkR T N b = some k) : k ≤ 4 := by
  unfold vkR at h
  split at h
  · split at h
    · injection h with h; omega
    · exact absurd h (by simp)
  · exact nbK_c h
theorem vx_n {T : Nat → Int32} {N b : Nat} (h : vkR T N b = none) : (b < N ∧ isLt_ (T b) = true → kwR T N b < 12) ∧ (¬ (b < N ∧ isLt_ (T b) = true) → b < N ∧ isDg (T b) = true ∧ dgs T N b ≤ 5 ∧ vlN T b (fv5 (dgs T N b)) < 100000) ∧ ∃ v, v < 100012 ∧ vxR T N b = nI v := by
  unfold vkR at h
  unfold vxR
  have kl := kw_le (T := T) (N := N) (b := b)
  by_cases c : b < N ∧ isLt_ (T b) = true
  · rw [if_pos c] at h ⊢
    have k12 : kwR T N b < 12 := by
      by_cases z : kwR T N b = 12
      · rw [if_pos z] at h; exact absurd h (by simp)
      · omega
    exact ⟨fun _ => k12, fun z => absurd c z, _, by omega, rfl⟩
  · rw [if_neg c] at h ⊢
    by_cases d : b < N ∧ isDg (T b) = true
    · by_cases e : 5 < dgs T N b ∨ nI (vlN T b (fv5 (dgs T N b))) < 0 ∨ 99999 < nI (vlN T b (fv5 (dgs T N b)))
      · rw [nbK_1 d e] at h; exact absurd h (by simp)
      · have g5 : dgs T N b ≤ 5 := by omega
        have vl : vlN T b (fv5 (dgs T N b)) < 100000 := by
          have w : fv5 (dgs T N b) ≤ 5 := by unfold fv5; split <;> omega
          have z := vl_lt (T := T) (b := b) (k := fv5 (dgs T N b)) (fun j hj => (dgN_e (dgs_in d.1 d.2 (j := j) (by unfold fv5 at hj; split at hj <;> omega)).2).1)
          exact Nat.lt_of_lt_of_le z (Nat.pow_le_pow_right (by decide) w)
        exact ⟨fun z => absurd z c, fun _ => ⟨d.1, d.2, g5, vl⟩, _, by omega, rfl⟩
    · rw [nbK_0 d] at h; exact absurd h (by simp)
theorem va_gd {T : Nat → Int32} {N : Nat} (hN : N ≤ 400) : gdR T N false (vaR T N) := by
  intro s
  refine ⟨va_f, fun h o => ?_⟩
  have o1 := o h
  unfold vaR
  cases hk : vkR T N s.2.1 with
  | some k =>
    dsimp only
    rw [bl_o h]
    have k4 := vk_c hk
    exact ⟨fpI_f (by omega) k4, fun z => absurd z (flt_nz (by omega) k4)⟩
  | none =>
    dsimp only
    obtain ⟨-, -, v, hv, hx⟩ := vx_n hk
    by_cases c : 60 ≤ s.2.2.1
    · rw [cn_x h c, av_f (flt_nz (by omega) (by decide)), ad_f (flt_nz (by omega) (by decide))]
      exact ⟨fpI_f (by omega) (by decide), fun z => absurd z (flt_nz (by omega) (by decide))⟩
    · rw [cn_o h c, av_o rfl, ad_o rfl]
      refine ⟨Or.inl rfl, fun _ => ⟨fun _ => ?_, ?_, ⟨?_, ?_, ?_, ?_⟩, [vxR T N s.2.1], rfl, fun t => rL_1 ?_⟩⟩
      · have t := tk_N (T := T) o1.1
        refine ⟨sk_N t.2, sk_sk, ?_⟩
        dsimp only; omega
      · dsimp only; omega
      · have t := tk_N (T := T) o1.1
        exact Nat.le_trans t.1 sp_le
      · dsimp only; omega
      · have t := Nat.le_trans (tk_N (T := T) o1.1).1 (sp_le (c := fun j => decide (T j = 32)) (N := N))
        dsimp only
        rw [List.length_append, List.length_singleton]
        unfold skB
        omega
      · dsimp only
        rw [nn_app]
        have := nn_2 (x := vxR T N s.2.1)
        omega
      · unfold rpt1
        rw [if_pos (by rw [hx]; exact nI_pos (by omega))]
theorem sm_gd {T : Nat → Int32} {N : Nat} (hN : N ≤ 400) : gdR T N false (smR T N) := smG_gd (va_gd hN) jn_pr jn_su
theorem cp_gd {T : Nat → Int32} {N : Nat} (hN : N ≤ 400) : gdR T N true (cpR T N) := by
  intro s
  refine ⟨cp_f, fun h o => ?_⟩
  have G := (sm_gd hN s).2 h o
  unfold cpR
  by_cases f : (smR T N s).1 = 0
  · obtain ⟨g1, g2, ⟨g3, g4, g5, g6⟩, D, g7, g8⟩ := G.2 f
    have o1 := g1 f
    by_cases c : cmR T N (smR T N s).2.1 = 0
    · rw [if_pos ⟨f, c⟩, bl_o f]
      exact ⟨fpI_f (by omega) (by decide), fun z => absurd z (flt_nz (by omega) (by decide))⟩
    · rw [if_neg (fun z => c z.2)]
      obtain ⟨j1, j2⟩ := cm_j c
      by_cases e : 60 ≤ (smR T N s).2.2.1
      · have nz : ¬ fltI (smR T N s).2.1 3 = 0 := flt_nz (by omega) (by decide)
        rw [cn_x f e, av_f (s := (fltI (smR T N s).2.1 3, (smR T N s).2)) nz, sm_f (s := (fltI (smR T N s).2.1 3, (smR T N s).2)) nz, ad_f (s := (fltI (smR T N s).2.1 3, (smR T N s).2)) nz]
        exact ⟨fpI_f (by omega) (by decide), fun z => absurd z nz⟩
      · rw [cn_o f e]
        obtain ⟨a1, a2, a3, a4, a5⟩ := av_ok (T := T) (N := N) (s := (0, (smR T N s).2.1, (smR T N s).2.2.1 + 1, (smR T N s).2.2.2)) rfl (fun _ => ⟨o1.1, o1.2.1, by dsimp only; omega⟩)
        generalize avR T N (0, (smR T N s).2.1, (smR T N s).2.2.1 + 1, (smR T N s).2.2.2) = u at a1 a2 a3 a4 a5 ⊢
        have G2 := (sm_gd hN u).2 a1 a2
        by_cases f2 : (smR T N u).1 = 0
        · obtain ⟨k1, k2, ⟨k3, k4, k5, k6⟩, D2, k7, k8⟩ := G2.2 f2
          rw [ad_o f2]
          dsimp only at a3 a4 a5
          rw [a5] at k2 k4 k5 k6 k7
          dsimp only at k2 k4 k5 k6 k7
          refine ⟨Or.inl rfl, fun _ => ⟨fun _ => k1 f2, ?_, ⟨?_, ?_, ?_, ?_⟩, D ++ D2 ++ [cmR T N (smR T N s).2.1], ?_, fun t => ?_⟩⟩
          · dsimp only; omega
          · dsimp only; omega
          · dsimp only; omega
          · dsimp only
            rw [List.length_append, List.length_singleton]
            omega
          · dsimp only
            rw [nn_app, nn_1 j1]
            omega
          · dsimp only
            rw [k7, g7, List.append_assoc, List.append_assoc, List.append_assoc]
          · exact rL_tr (rL_tr (g8 t) (k8 (false :: t))) (rL_1 (j2 t))
        · rw [ad_f f2]
          exact ⟨G2.1, fun z => absurd z f2⟩
  · rw [if_neg (fun z => f z.1), cn_f f, av_f f, sm_f f, ad_f f]
    exact ⟨G.1, fun z => absurd z f⟩
theorem fc_gd {T : Nat → Int32} {N : Nat} (hN : N ≤ 400) : ∀ r, gdR T N true (fcR T N r)
  | 0 => fun s => ⟨fun h => fc_f h 0, fun h o => by
    have o1 := o h
    rw [fcR]
    by_cases c : s.1 = 0 ∧ (stW T N s.2.1 (wdO 10) ∨ tkS T N s.2.1 = 91)
    · rw [if_pos c, bl_o h]
      exact ⟨fpI_f (by omega) (by decide), fun z => absurd z (flt_nz (by omega) (by decide))⟩
    · rw [if_neg c]
      exact (cp_gd hN s).2 h o⟩
  | r + 1 => fun s => ⟨fun h => fc_f h (r + 1), fun h o => by
    have o1 := o h
    obtain ⟨a1, a2, a3, a4, a5⟩ := av_ok h o
    rw [fcR]
    by_cases c : s.1 = 0 ∧ stW T N s.2.1 (wdO 10)
    · rw [if_pos c]
      have e3 := wd_tk c.2
      have l3 : (wdO 10).length = 3 := by decide +kernel
      generalize avR T N s = u at a1 a2 a3 a4 a5 ⊢
      have G := (fc_gd hN r u).2 a1 a2
      by_cases f : (fcR T N r u).1 = 0
      · obtain ⟨k1, k2, ⟨k3, k4, k5, k6⟩, D, k7, k8⟩ := G.2 f
        rw [ad_o f]
        rw [a5] at k2 k4 k5 k6 k7
        refine ⟨Or.inl rfl, fun _ => ⟨fun _ => k1 f, ?_, ⟨?_, ?_, ?_, ?_⟩, D ++ [-13], ?_, fun t => ?_⟩⟩
        · dsimp only; omega
        · dsimp only; omega
        · dsimp only; omega
        · dsimp only
          rw [List.length_append, List.length_singleton]
          omega
        · dsimp only
          rw [nn_app, nn_1 (by decide)]
          omega
        · dsimp only
          rw [k7, List.append_assoc]
        · exact rL_tr (k8 t) (rL_1 rfl)
      · rw [ad_f f]
        exact ⟨G.1, fun z => absurd z f⟩
    · rw [if_neg c]
      by_cases d : s.1 = 0 ∧ tkS T N s.2.1 = 91
      · rw [if_pos d]
        generalize avR T N s = u at a1 a2 a3 a4 a5 ⊢
        have G := (smG_gd (fc_gd hN r) (jn_an (T := T) (N := N)) (jn_or (T := T) (N := N)) u).2 a1 a2
        generalize smG (avR T N) (fcR T N r) (anR T N) (orR T N) u = v at G ⊢
        by_cases f : v.1 = 0
        · obtain ⟨k1, k2, ⟨k3, k4, k5, k6⟩, D, k7, k8⟩ := G.2 f
          have o2 := k1 f
          rw [a5] at k2 k4 k5 k6 k7
          unfold clR
          by_cases e : tkS T N v.2.1 = 93
          · rw [if_pos e]
            obtain ⟨b1, b2, b3, b4, b5⟩ := av_ok f k1
            generalize avR T N v = w at b1 b2 b3 b4 b5 ⊢
            refine ⟨Or.inl b1, fun _ => ⟨b2, by rw [b5]; omega, ⟨by omega, by rw [b5]; omega, by rw [b5]; omega, by rw [b5]; omega⟩, D, by rw [b5]; exact k7, k8⟩⟩
          · rw [if_neg e, bl_o f]
            exact ⟨fpI_f (by omega) (by decide), fun z => absurd z (flt_nz (by omega) (by decide))⟩
        · unfold clR
          rw [av_f f, bl_f f]
          split <;> exact ⟨G.1, fun z => absurd z f⟩
      · rw [if_neg d]
        exact (cp_gd hN s).2 h o⟩
theorem te_gd {T : Nat → Int32} {N : Nat} (hN : N ≤ 400) (r : Nat) : gdR T N true (teR T N r) := smG_gd (fc_gd hN r) jn_an jn_or
