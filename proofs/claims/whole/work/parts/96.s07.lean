/-! a rule told: the model reads tests -/
def FCT (d bc bs N sl : Nat) (U : Nat → Int32) (r : Nat) : Prop := ∀ (Q : Option Value → jx_H → Prop) (h0 h : jx_H) (s : RS) (m : Nat) (τ : List Int32) (dp : Nat), moT sl h0 h → mts h N sl U s (List.replicate m 9 ++ τ) dp → s.1 = 0 → iR U N s → dp + r = 10 → m ≤ dp → ¬ τ.headD (-1) = 9 → m + τ.length ≤ 3 * dp + 2 →
  (∀ h', moT sl h0 h' → (fcR U N r s).1 = 0 → mts h' N sl U (adN (-13) m (fcR U N r s)) τ (dp - m) → A46 d bc bs h' Q) →
  (∀ h', moT sl h0 h' → ¬ (fcR U N r s).1 = 0 → mrB h' N sl U (fcR U N r s).1 → Q none h') → LPt d bc bs 1 h Q
def TST (d bc bs N sl : Nat) (U : Nat → Int32) (r : Nat) : Prop := ∀ (Q : Option Value → jx_H → Prop) (h0 h : jx_H) (s : RS) (ρ : List Int32) (dp : Nat), moT sl h0 h → mts h N sl U s ρ dp → s.1 = 0 → iR U N s → dp + r = 10 → (ρ.headD (-1) = 12 ∨ ρ.headD (-1) = -1) → ρ.length ≤ 3 * dp →
  (∀ h', moT sl h0 h' → (teR U N r s).1 = 0 → mtP h' N sl U (teR U N r s).2.1 (teR U N r s) ρ dp → A137 d bc bs h' Q) →
  (∀ h', moT sl h0 h' → ¬ (teR U N r s).1 = 0 → mrB h' N sl U (teR U N r s).1 → Q none h') → LPt d bc bs 1 h Q
theorem aN_i {T : Nat → Int32} {N : Nat} {s : RS} (i : iR T N s) (hN : N ≤ 400) (f : s.1 = 0) {m : Nat} (hm : m ≤ 10) : s.2.2.2.length + m < 300 := by
  have := i_len i hN f
  omega
section MC
variable {d bc bs N sl : Nat} {U : Nat → Int32}
/-- a comparison, at any depth -/
theorem fct_c (hN : N ≤ 400) (hsl : sl < 6) (hU : bytT U N) {Q : Option Value → jx_H → Prop} {h0 h : jx_H} {s : RS} {m : Nat} {τ : List Int32} {dp : Nat} (M0 : moT sl h0 h) (M : mts h N sl U s (List.replicate m 9 ++ τ) dp) (f : s.1 = 0) (I : iR U N s) (hd : dp ≤ 10) (hm : m ≤ dp) (ht : ¬ τ.headD (-1) = 9) (L : m + τ.length ≤ 3 * dp + 2) (c : ¬ stW U N s.2.1 (wdO 10)) (cb : ¬ tkS U N s.2.1 = 91)
    (ko : ∀ h', moT sl h0 h' → (cpR U N s).1 = 0 → mts h' N sl U (adN (-13) m (cpR U N s)) τ (dp - m) → A46 d bc bs h' Q)
    (kb : ∀ h', moT sl h0 h' → ¬ (cpR U N s).1 = 0 → mrB h' N sl U (cpR U N s).1 → Q none h') : LPt d bc bs 1 h Q := by
  have ls : (List.replicate m (9 : Int32) ++ τ).length = m + τ.length := by rw [List.length_append, List.length_replicate]
  have S := M
  obtain ⟨p, hp, B, eB⟩ := S
  refine lp_1b B.1.1.1 B.1.2.1 f (t_Mo_fact_c d M f hN hsl I (by omega) hU c cb) (fun h1 q => ?_)
  obtain ⟨F1, p1, h1p, B1, e1⟩ := q
  by_cases g : (cpR U N s).1 = 0
  · have I1 := gd_i (cp_gd hN) I
    refine lp_0 B1 g hsl (by omega) (aN_i I1 hN g (by omega)) ht hm hd (fun h2 F2 B2 => ko h2 ((M0.tr F1).tr F2) g ⟨p1, h1p, B2, ?_⟩)
    rw [(aN_1 (x := -13) (m := m) g).2.1]; exact e1 g
  · exact lp_x B1.1.1.1 B1.1.2.1 g (kb h1 (M0.tr F1) g (B1.1.b (by omega)))
theorem fct_0 (hN : N ≤ 400) (hsl : sl < 6) (hU : bytT U N) : FCT d bc bs N sl U 0 := by
  intro Q h0 h s m τ dp M0 M f I hd hm ht L ko kb
  have ls : (List.replicate m (9 : Int32) ++ τ).length = m + τ.length := by rw [List.length_append, List.length_replicate]
  have S := M
  obtain ⟨p, hp, B, eB⟩ := S
  by_cases c : s.1 = 0 ∧ (stW U N s.2.1 (wdO 10) ∨ tkS U N s.2.1 = 91)
  · have ef : fcR U N 0 s = (fltI s.2.1 2, s.2) := by rw [fcR, if_pos c, bl_o f]
    have nz : ¬ fltI s.2.1 2 = 0 := flt_nz (by have := (I.1 f).1; omega) (by decide)
    rw [ef] at kb
    by_cases a : stW U N s.2.1 (wdO 10)
    · exact lp_1a B.1.1.1 B.1.2.1 f (t_Mo_fact_nx d M f hN hsl I (by omega) a (by omega)) (fun h1 q => lp_x q.2.1.1 q.2.2.1 nz (kb h1 (M0.tr q.1) nz q.2))
    · exact lp_1a B.1.1.1 B.1.2.1 f (t_Mo_fact_bx d M f hN hsl I (by omega) a (c.2.resolve_left a) (by omega)) (fun h1 q => lp_x q.2.1.1 q.2.2.1 nz (kb h1 (M0.tr q.1) nz q.2))
  · have ef : fcR U N 0 s = cpR U N s := by rw [fcR, if_neg c]
    rw [ef] at ko kb
    exact fct_c hN hsl hU M0 M f I (by omega) hm ht L (fun z => c ⟨f, Or.inl z⟩) (fun z => c ⟨f, Or.inr z⟩) ko kb
theorem an_or {b : Nat} (h : stW U N b (wdO 8)) : ¬ stW U N b (wdO 9) := fun z => by
  have h1 := h.2.1
  have h2 := z.2.1
  rw [wd_35.2.2.2.2.1] at h1
  rw [wd_35.2.2.2.2.2] at h2
  omega
theorem oI_r {x k : Int32} (h : ¬ x = 0) (l : List Int32) : List.replicate (oneI x) k ++ l = k :: l := by
  unfold oneI
  rw [if_neg h]; rfl
theorem oI_0 {k : Int32} (l : List Int32) : List.replicate (oneI 0) k ++ l = l := rfl
theorem tst_f (hN : N ≤ 400) (hsl : sl < 6) {r : Nat} (F : FCT d bc bs N sl U r) {R : RS} {ρ : List Int32} {dp : Nat} {Q : Option Value → jx_H → Prop} {h0 : jx_H} (hd : dp + r = 10) (hρ : ρ.headD (-1) = 12 ∨ ρ.headD (-1) = -1) (L : ρ.length ≤ 3 * dp)
    (ke : ∀ h', moT sl h0 h' → R.1 = 0 → mtP h' N sl U R.2.1 R ρ dp → A137 d bc bs h' Q) (kb : ∀ h', moT sl h0 h' → ¬ R.1 = 0 → mrB h' N sl U R.1 → Q none h') :
    ∀ (j k : Nat) (h : jx_H) (s : RS) (pr su : Int32), j + k = 61 → moT sl h0 h → flI U N (fcR U N r) (anR U N) (orR U N) R k (s, pr, su, true) → s.1 = 0 → (pr = 0 ∨ pr = -11) → (su = 0 ∨ su = -12) → mts h N sl U s (List.replicate (oneI pr) 10 ++ (List.replicate (oneI su) 11 ++ ρ)) dp → LPt d bc bs 1 h Q
  | 0, k, h, s, pr, su, hj, _, X, _, _, _, _ => by
    have hk : k = 61 := by omega
    subst hk
    exact (fl_61 X).elim
  | j + 1, k, h, s, pr, su, hj, M0, X, f, hpr, hsu, M => by
    have vgd := fc_gd (T := U) hN r
    have I := fl_ir X
    have op := oI_le (x := pr)
    have os := oI_le (x := su)
    have lt : (List.replicate (oneI pr) (10 : Int32) ++ (List.replicate (oneI su) 11 ++ ρ)).length = oneI pr + (oneI su + ρ.length) := by rw [List.length_append, List.length_append, List.length_replicate, List.length_replicate]
    have ht : ¬ (List.replicate (oneI pr) 10 ++ (List.replicate (oneI su) 11 ++ ρ)).headD (-1) = 9 := by
      by_cases c : pr = 0
      · rw [c, oI_0]
        by_cases e : su = 0
        · rw [e, oI_0]
          rcases hρ with z | z <;> (rw [z]; decide)
        · rw [oI_r e]; exact (by decide : ¬ (11 : Int32) = 9)
      · rw [oI_r c]; exact (by decide : ¬ (10 : Int32) = 9)
    refine F Q h0 h s 0 (List.replicate (oneI pr) 10 ++ (List.replicate (oneI su) 11 ++ ρ)) dp M0 M f I hd (Nat.zero_le _) ht (by rw [lt]; omega) (fun h1 M1 g m1 => ?_) (fun h1 M1 g m1 => ?_)
    · have g1 := gd_i vgd I
      obtain ⟨p1, hp1, B1, e1⟩ := m1
      have B1 : mtP h1 N sl U p1 (fcR U N r s) (List.replicate (oneI pr) 10 ++ (List.replicate (oneI su) 11 ++ ρ)) dp := B1
      have e1 : skB U N p1 = (fcR U N r s).2.1 := e1
      have f2 : (adz pr (fcR U N r s)).1 = 0 := az_1.trans g
      have b2 : (adz pr (fcR U N r s)).2.1 = (fcR U N r s).2.1 := az_b.1
      have f3 : (adz su (adz pr (fcR U N r s))).1 = 0 := az_1.trans f2
      have b3 : (adz su (adz pr (fcR U N r s))).2.1 = (fcR U N r s).2.1 := az_b.1.trans b2
      by_cases a : stW U N (fcR U N r s).2.1 (wdO 8)
      · have ca : ¬ opZ (anR U N) (adz pr (fcR U N r s)) = 0 := an_z.mpr ⟨f2, by rw [b2]; exact a⟩
        refine a46_A B1 hp1 e1 g hN hsl g1 hpr hsu hρ (by omega) a (an_or a) (fun h2 F2 m2 => ?_)
        have Y := fl_A vgd hN (by omega) X ca
        refine tst_f hN hsl F hd hρ L ke kb j (k + 1) h2 _ _ _ (by omega) (M1.tr F2) Y (by rw [av_o f2]) an_v hsu ?_
        rw [oI_r ca]; exact m2
      · have ca : opZ (anR U N) (adz pr (fcR U N r s)) = 0 := Decidable.not_not.mp (fun z => a (by have := (an_z.mp z).2; rw [b2] at this; exact this))
        by_cases o : stW U N (fcR U N r s).2.1 (wdO 9)
        · have co : ¬ opZ (orR U N) (adz su (adz pr (fcR U N r s))) = 0 := or_z.mpr ⟨f3, by rw [b3]; exact o⟩
          refine a46_B B1 hp1 e1 g hN hsl g1 hpr hsu hρ (by omega) a o (fun h2 F2 m2 => ?_)
          have Y := fl_B vgd hN (by omega) X ca co
          refine tst_f hN hsl F hd hρ L ke kb j (k + 1) h2 _ _ _ (by omega) (M1.tr F2) Y (by rw [av_o f3]) (Or.inl rfl) or_v ?_
          rw [oI_0, oI_r co]; exact m2
        · have co : opZ (orR U N) (adz su (adz pr (fcR U N r s))) = 0 := Decidable.not_not.mp (fun z => o (by have := (or_z.mp z).2; rw [b3] at this; exact this))
          refine a46_C B1 hp1 e1 g hN hsl g1 hpr hsu hρ (by omega) a o (fun h2 F2 m2 => ?_)
          have Y := (fl_C vgd hN (by omega) X ca co).2.2.2 rfl
          have Y : R = adz su (adz pr (fcR U N r s)) := Y
          refine ke h2 (M1.tr F2) (by rw [Y]; exact f3) ?_
          rw [Y, b3]; exact m2
    · have z1 : adz pr (fcR U N r s) = fcR U N r s := az_f g
      have z2 : adz su (adz pr (fcR U N r s)) = fcR U N r s := by rw [z1]; exact az_f g
      have ca : opZ (anR U N) (adz pr (fcR U N r s)) = 0 := by rw [z1]; exact if_neg g
      have co : opZ (orR U N) (adz su (adz pr (fcR U N r s))) = 0 := by rw [z2]; exact if_neg g
      have Y := (fl_C vgd hN (by omega) X ca co).2.2.2 rfl
      have Y : R = adz su (adz pr (fcR U N r s)) := Y
      rw [z2] at Y
      exact kb h1 M1 (by rw [Y]; exact g) (by rw [Y]; exact m1)
theorem tst_r (hN : N ≤ 400) (hsl : sl < 6) {r : Nat} (F : FCT d bc bs N sl U r) : TST d bc bs N sl U r := by
  intro Q h0 h s ρ dp M0 M f I hd hρ L ke kb
  exact tst_f hN hsl F hd hρ L ke kb 61 0 h s 0 0 rfl M0 (fl_0 I) f (Or.inl rfl) (Or.inl rfl) M
theorem fct_s (hN : N ≤ 400) (hsl : sl < 6) (hU : bytT U N) {r : Nat} (F : FCT d bc bs N sl U r) : FCT d bc bs N sl U (r + 1) := by
  intro Q h0 h s m τ dp M0 M f I hd hm ht L ko kb
  have ls : (List.replicate m (9 : Int32) ++ τ).length = m + τ.length := by rw [List.length_append, List.length_replicate]
  have S := M
  obtain ⟨p, hp, B, eB⟩ := S
  by_cases c : stW U N s.2.1 (wdO 10)
  · have ef : fcR U N (r + 1) s = adR (-13) (fcR U N r (avR U N s)) := by rw [fcR, if_pos ⟨f, c⟩]
    rw [ef] at ko kb
    refine lp_1a B.1.1.1 B.1.2.1 f (t_Mo_fact_n d M f hN hsl I (by omega) c (by omega)) (fun h1 q => ?_)
    refine F Q h0 h1 (avR U N s) (m + 1) τ (dp + 1) (M0.tr q.1) q.2 (by rw [av_o f]) (av_i I) (by omega) (by omega) ht (by omega) (fun h2 M2 g m2 => ?_) (fun h2 M2 g m2 => ?_)
    · refine ko h2 M2 (by rw [ad_o g]) ?_
      rw [adN, show dp + 1 - (m + 1) = dp - m by omega] at m2
      exact m2
    · rw [ad_f g] at kb
      exact kb h2 M2 g m2
  · by_cases cb : tkS U N s.2.1 = 91
    · have ef : fcR U N (r + 1) s = clR U N (teR U N r (avR U N s)) := by
        rw [fcR, if_neg (fun z => c z.2), if_pos ⟨f, cb⟩]; rfl
      rw [ef] at ko kb
      have It := gd_i (te_gd hN r) (av_i I)
      refine lp_1a B.1.1.1 B.1.2.1 f (t_Mo_fact_b d M f hN hsl I (by omega) c cb (by omega)) (fun h1 q => ?_)
      refine tst_r hN hsl F Q h0 h1 (avR U N s) (12 :: (List.replicate m 9 ++ τ)) (dp + 1) (M0.tr q.1) q.2 (by rw [av_o f]) (av_i I) (by omega) (Or.inl rfl) (by rw [List.length_cons, ls]; omega) (fun h2 M2 g m2 => ?_) (fun h2 M2 g m2 => ?_)
      · generalize teR U N r (avR U N s) = u at ko kb It g m2
        have ou := It.1 g
        by_cases e : (if u.2.1 < N then U u.2.1 else -1) = 93
        · have e9 : tkS U N u.2.1 = 93 := (tk_x (by decide) (by decide) (by decide) (by decide)).mpr e
          have ec : clR U N u = avR U N u := if_pos e9
          obtain ⟨x1, x2⟩ := sgn_lt e (by decide)
          have wl := tkE_x (T := U) (N := N) (b := u.2.1) (x := 93) (by decide) (by decide) (by decide) x1 x2
          rw [ec] at ko
          have Iv := av_i It
          have gv : (avR U N u).1 = 0 := by rw [av_o g]
          refine a137_o m2 ou.1 g hN (by omega) (by omega) e (fun h3 F3 B3 h3p => ?_)
          refine lp_0 (B3.av g) gv hsl (by omega) (aN_i Iv hN gv (by omega)) ht hm (by omega) (fun h4 F4 B4 => ko h4 ((M2.tr F3).tr F4) gv ⟨_, h3p, B4, ?_⟩)
          rw [(aN_1 (x := -13) (m := m) gv).2.1, av_o g, wl]
        · have e9 : ¬ tkS U N u.2.1 = 93 := fun z => e ((tk_x (by decide) (by decide) (by decide) (by decide)).mp z)
          have ec : clR U N u = (fltI u.2.1 0, u.2) := (if_neg e9).trans (bl_o g)
          have nz : ¬ fltI u.2.1 0 = 0 := flt_nz (by omega) (by decide)
          rw [ec] at kb
          exact a137_x m2 ou.1 g hN (by omega) (by omega) e (fun h3 F3 b3 => lp_x b3.1.1 b3.2.1 nz (kb h3 (M2.tr F3) nz b3))
      · have ec : clR U N (teR U N r (avR U N s)) = teR U N r (avR U N s) := by
          unfold clR
          split
          · exact av_f g
          · exact bl_f g
        rw [ec] at kb
        exact kb h2 M2 g m2
    · have ef : fcR U N (r + 1) s = cpR U N s := by rw [fcR, if_neg (fun z => c z.2), if_neg (fun z => cb z.2)]
      rw [ef] at ko kb
      exact fct_c hN hsl hU M0 M f I (by omega) hm ht L c cb ko kb
theorem fct_all (hN : N ≤ 400) (hsl : sl < 6) (hU : bytT U N) : ∀ r, FCT d bc bs N sl U r
  | 0 => fct_0 hN hsl hU
  | r + 1 => fct_s hN hsl hU (fct_all hN hsl hU r)
end MC
