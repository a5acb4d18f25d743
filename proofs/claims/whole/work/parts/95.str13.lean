/-! a strip told: both alike -/
theorem by_p : ∀ n, n < 256 → 0 ≤ ((Int8.ofNat n).toInt32 &&& 255).toInt ∧ ((Int8.ofNat n).toInt32 &&& 255).toInt ≤ 255 := by decide +kernel
theorem by_255 (x : Int32) : 0 ≤ (x &&& 255).toInt ∧ (x &&& 255).toInt ≤ 255 := by
  rw [← bp_b x, ← i8_e x.toInt8]
  exact by_p _ x.toInt8.toBitVec.isLt
theorem mW.of2 {g g' : Nat → Nat → Int32} {X : MW} (r : mW g X) (e : ∀ a, (254 ≤ a ∧ a ≤ 269) ∨ a = 292 ∨ a = 293 → g' a = g a) : mW g' X := by
  unfold mW mSt mLa at r ⊢
  rw [e 254 (by omega), e 255 (by omega), e 256 (by omega), e 257 (by omega), e 258 (by omega), e 259 (by omega), e 260 (by omega), e 261 (by omega), e 262 (by omega), e 263 (by omega), e 264 (by omega), e 265 (by omega), e 266 (by omega), e 267 (by omega), e 268 (by omega), e 269 (by omega), e 292 (by omega), e 293 (by omega)]
  exact r
theorem jx_Sp.cg {h h' : jx_H} {s : Nat} (H : jx_Sp h s) (e1 : ∀ b, s ≤ b → b ≤ s + 12 → h'.1[b]? = h.1[b]?) (e2 : ∀ b, s ≤ b → b ≤ s + 12 → h'.2.2.2 b = h.2.2.2 b) : jx_Sp h' s := by
  unfold jx_Sp jx_Sp0 jx_La at H ⊢
  rw [e2 s (by omega) (by omega), e2 (s + 8) (by omega) (by omega), e1 (s) (by omega) (by omega), e1 (s + 1) (by omega) (by omega), e1 (s + 2) (by omega) (by omega), e1 (s + 3) (by omega) (by omega), e1 (s + 4) (by omega) (by omega), e1 (s + 5) (by omega) (by omega), e1 (s + 6) (by omega) (by omega), e1 (s + 7) (by omega) (by omega), e1 (s + 8) (by omega) (by omega), e1 (s + 8 + 1) (by omega) (by omega), e1 (s + 8 + 2) (by omega) (by omega), e1 (s + 8 + 3) (by omega) (by omega), e1 (s + 8 + 4) (by omega) (by omega)]
  exact H
theorem jx_Sp.lt {h : jx_H} {s : Nat} (H : jx_Sp h s) : s + 12 < h.1.length := by
  have z := (List.getElem?_eq_some_iff.mp H.2.2.2.2.2.1).1
  omega
theorem rW.nw {h h' : jx_H} {a w : Nat} {X : MW} (r : rW h w X) (hl : h.1.length = a) (e1 : ∀ b, b < a → h'.1[b]? = h.1[b]?) (eR : ∀ b, sRow b → b < a → h'.2.2.2 b = h.2.2.2 b) (eI : ∀ b, sRow b → b < a → h'.2.1 b = h.2.1 b) (eW : ∀ b, w ≤ b → b ≤ w + 22 → h'.2.1 b = h.2.1 b) (e0 : h'.2.2.2 w 0 = h.2.2.2 w 0) : rW h' w X := by
  obtain ⟨⟨s, r1, r2, r3, r4⟩, r5, r6, r7, r8⟩ := r
  have l := r3.lt
  refine ⟨⟨s, by rw [e0]; exact r1, r2, r3.cg (fun b h1 h2 => e1 b (by omega)) (fun b h1 h2 => eR b (sRow_of r2 h1 h2) (by omega)), r4.of (fun b h1 h2 => eI b (sRow_of r2 h1 h2) (by omega))⟩, r5.of (fun b h1 h2 => eW b (by omega) (by omega)), ?_, ?_, ?_⟩
  · rw [eW w (by omega) (by omega)]; exact r6
  · rw [eW w (by omega) (by omega), eW (w + 19) (by omega) (by omega), eW (w + 20) (by omega) (by omega), eW (w + 21) (by omega) (by omega)]; exact r7
  · rw [eW w (by omega) (by omega), eW (w + 22) (by omega) (by omega)]; exact r8
def stB (b : Nat) : Prop := b = 2 ∨ b = 26 ∨ (40 ≤ b ∧ b ≤ 44) ∨ (253 ≤ b ∧ b ≤ 279)
theorem InvX.nw {n : Nat} {h h2 : jx_H} {t nr a : Nat} {rs : Nat → MR} {X X' : MW} {Y : Nat → MW} (q : InvX n h t nr rs X Y) (hl : h.1.length = a) (ha : 304 ≤ a) (S2 : jx_St h2) (l2 : h2.1.length = a + 13) (e1 : ∀ b, b < a → h2.1[b]? = h.1[b]?) (eR : ∀ b, b < a → ¬ (b = 4 ∨ b = 26 ∨ b = 51) → h2.2.2.2 b = h.2.2.2 b) (eI : ∀ b, b < a → ¬ stB b → h2.2.1 b = h.2.1 b)
    (x1 : h2.2.1 2 1 = 0) (x2 : h2.2.1 253 27 = 0) (x3 : h2.2.1 253 31 = h.2.1 253 31) (x4 : h2.2.1 253 36 = h.2.1 253 36) (r : rW h2 26 X') (m : mW (gN h2) X') (w : wfW (n + 1) nr X') (l : lawOK h2 X') : InvX (n + 1) h2 0 nr rs X' Y := by
  obtain ⟨q1, ⟨q2, q2'⟩, -, ⟨r1, r2, r3, r4⟩, -, -, -, -, q9⟩ := q
  refine ⟨S2, ⟨by omega, by rw [x4]; exact q2'⟩, ⟨by decide, x1, x2, fun j hj => absurd hj (Nat.not_lt_zero j)⟩, ⟨r1, ?_, by rw [x3]; exact r3, fun k hk => ?_⟩, r, m, w, l, fun k hk => ?_⟩
  · rw [eI 1 (by omega) (by unfold stB; omega)]; exact r2
  · obtain ⟨a1, a2, a3⟩ := r4 k hk
    exact ⟨a1.of (fun b h1 h2 => eI b (by omega) (by unfold stB; omega)), a2.of (fun b h1 h2 => eI b (by omega) (by unfold stB; omega)), a3⟩
  · refine imgOK.up (n := n) (nr := nr) ?_ (by omega) (Nat.le_refl _)
    unfold imgOK
    rw [eI 50 (by omega) (by unfold stB; omega), eI 303 (by omega) (by unfold stB; omega)]
    rcases q9 k hk with z | ⟨z1, z2, z3, z4, z5⟩
    · exact Or.inl z
    · refine Or.inr ⟨z1, z2, z3.nw hl e1 (fun b b1 b2 => eR b b2 (fun y => by unfold sRow at b1; omega)) (fun b b1 b2 => eI b b2 (fun y => by unfold sRow at b1; unfold stB at y; omega)) (fun b b1 b2 => eI b (by omega) (by unfold stB; omega)) (by rw [eR _ (by omega) (by omega)]), mI_of (fun i hi => by rw [eI 302 (by omega) (by unfold stB; omega)]) hk z5 z4, z5⟩
set_option maxHeartbeats 1000000 in
theorem op_strip : jo Inv 3 12004 [] := by
  intro n h hn q
  obtain ⟨t, nr, rs, X, Y, q⟩ := q
  obtain ⟨Q1, ⟨Q2, Q2'⟩, ⟨t1, t2, t3, t4⟩, ⟨u1, u2, u3, u4⟩, Q5, Q6, Q7, Q8, Q9⟩ := id q
  obtain ⟨a, hl⟩ : ∃ a, h.1.length = a := ⟨_, rfl⟩
  have ha : 304 ≤ a := by
    have := (List.getElem?_eq_some_iff.mp (sK303 Q1)).1
    omega
  have ha2 : a < 700000 := by omega
  have hT : bytT (h.2.1 3) t := fun j hj => by rw [(t4 j hj).1]; exact by_255 _
  have eIT : itS (mT h) t S00 41 = itS (h.2.1 3) t S00 41 := (it_cg (fun j hj => (t4 j hj).1) S00 41).symm
  by_cases c : (itS (h.2.1 3) t S00 41).2.1.1 = 0
  · refine (t_Db_strip 190 (N := t) (a := a) Q1 t2 t1 hT hl ha ha2 (nr := nr) (ff := X.2.2.1.1) c Q5.2.2.1.1 u2 u1 Q7.2.2.1).mono (fun r h1 e => ?_)
    obtain ⟨rfl, S1, SP1, ⟨k1, j1, i1⟩, b1, b2, b3, b4, b5, b6, b7, b8, b9, b10⟩ := e
    have kk : ∀ b, b < a → h1.1[b]? = h.1[b]? := fun b hb => by rw [k1, nw_S, List.getElem?_append_left (by omega)]
    have eM : ∀ b, 253 ≤ b → b ≤ 303 → h1.2.1 b = h.2.1 b := fun b x1 x2 => i1 b (by omega) (by omega)
    have eT : mT h1 = mT h := by funext j; unfold mT; rw [eM 280 (by omega) (by omega)]
    refine ⟨⟨i1 0 (by omega) (by omega), kk 0 (by omega), sK253 S1⟩, _, rfl, ?_⟩
    have M := t_Mo_strip 189 (bc := 0) (bs := 0) (h := h1) (N := t) S1 (by rw [eM 253 (by omega) (by omega)]; exact t3) t1 (fun j hj => by rw [eM 280 (by omega) (by omega)]; exact (t4 j hj).2) (ff := X.2.2.1.1) (xx := X.2.2.1.2) (by rw [eT, eIT]; exact c) (by rw [eM 254 (by omega) (by omega)]; exact Q6.fx.1) (by rw [eM 254 (by omega) (by omega)]; exact Q6.fx.2)
    rw [eT, eIT] at M
    refine M.mono (fun r h2 e => ?_)
    obtain ⟨rfl, f2, g2, z2, m2⟩ := e
    have wS := (it_wf (T := h.2.1 3) (N := t) wf_00 rfl t1 41 (by decide)).1
    have F : ∀ b, b < 253 ∨ 280 ≤ b → h2.2.1 b = h1.2.1 b := fun b hb => f2.2 b (fun z => by unfold mxA at z; omega)
    refine ⟨rfl, by rw [f2.1.1], 0, nr, rs, _, Y, q.nw hl ha (f2.St S1) (by rw [f2.1.1, k1]; exact nw_len hl) (fun b hb => by rw [f2.1.1]; exact kk b hb) (fun b hb hb2 => by rw [f2.1.2]; exact j1 b hb hb2) (fun b hb hb2 => (F b (by unfold stB at hb2; omega)).trans (i1 b hb (by unfold stB at hb2; omega))) (by rw [F 2 (by omega)]; exact b1) z2 (by rw [g2 31 (by decide) (by decide) (by decide) (by decide) (by decide) (by decide) (by decide), eM 253 (by omega) (by omega)]) (by rw [g2 36 (by decide) (by decide) (by decide) (by decide) (by decide) (by decide) (by decide), eM 253 (by omega) (by omega)]) ?_ m2 ?_ ?_⟩
    · obtain ⟨o, o1, o2, -, -⟩ := Q5.2.2.2.2
      refine ⟨⟨a, by rw [f2.1.2]; exact b7, Or.inr (Or.inr (Or.inr (Or.inr (Or.inr ha)))), f2.Sp SP1, b5.of (fun b b1 b2 => F b (by omega))⟩, b6.of (fun b b1 b2 => F b (by omega)), ?_, ?_, o, o1, ?_, ?_, fun i hi => absurd hi (Nat.not_lt_zero i)⟩
      · rw [F 26 (by omega), b2 2 (by decide) (by decide), b2 3 (by decide) (by decide)]; exact Q5.2.2.1
      · exact ⟨by rw [F 26 (by omega)]; exact b3, fun k hk => absurd hk (Nat.not_lt_zero k)⟩
      · rw [F 26 (by omega), b2 9 (by decide) (by decide)]; exact o2
      · rw [F 26 (by omega)]; exact b4
    · exact ⟨wS, (wS.2.2.2.2.2.2.2).up (Nat.zero_le _), Q7.2.2.1, Q7.2.2.2.1, ⟨Nat.zero_le _, fun k hk => absurd hk (Nat.not_lt_zero k)⟩, Nat.zero_le _, fun i hi => absurd hi (Nat.not_lt_zero i)⟩
    · intro _
      rw [f2.1.2]
      exact ⟨b8.trans b7.symm, b9, b10⟩
  · refine (t_Db_strip_f 190 (N := t) (a := a) Q1 t2 t1 hT hl ha ha2 c).mono (fun r h1 e => ?_)
    obtain ⟨rfl, S1, ⟨k1, j1, i1⟩, b1⟩ := e
    have kk : ∀ b, b < a → h1.1[b]? = h.1[b]? := fun b hb => by rw [k1, nw_S, List.getElem?_append_left (by omega)]
    have eM : ∀ b, 253 ≤ b → b ≤ 303 → h1.2.1 b = h.2.1 b := fun b x1 x2 => i1 b (by omega) (by omega)
    have eT : mT h1 = mT h := by funext j; unfold mT; rw [eM 280 (by omega) (by omega)]
    refine ⟨⟨i1 0 (by omega) (by omega), kk 0 (by omega), sK253 S1⟩, _, rfl, ?_⟩
    have M := t_Mo_strip_f 189 (bc := 0) (bs := 0) (h := h1) (N := t) S1 (by rw [eM 253 (by omega) (by omega)]; exact t3) t1 (fun j hj => by rw [eM 280 (by omega) (by omega)]; exact (t4 j hj).2) (by rw [eT, eIT]; exact c)
    rw [eT, eIT] at M
    refine M.mono (fun r h2 e => ?_)
    obtain ⟨rfl, f2, g2, z2⟩ := e
    have F : ∀ b, b < 253 ∨ (254 ≤ b ∧ b < 270) ∨ 280 ≤ b → h2.2.1 b = h1.2.1 b := fun b hb => f2.2 b (fun z => by unfold mnA at z; omega)
    have K1 : ∀ b, b < a → h2.1[b]? = h.1[b]? := fun b hb => by rw [f2.1.1]; exact kk b hb
    have K2 : ∀ b, b < a → b ≠ 4 → h2.2.2.2 b = h.2.2.2 b := fun b hb hb2 => by rw [f2.1.2]; exact j1 b hb hb2
    have K3 : ∀ b, b < a → b ≠ 2 → ¬ (b = 253 ∨ 270 ≤ b ∧ b ≤ 279) → h2.2.1 b = h.2.1 b := fun b hb hb2 hb3 => (F b (by omega)).trans (i1 b hb hb2)
    have K4 : ∀ j, j ≠ 27 → j ≠ 28 → j ≠ 29 → j ≠ 32 → j ≠ 33 → j ≠ 34 → h2.2.1 253 j = h.2.1 253 j := fun j j1 j2 j3 j4 j5 j6 => (g2 j j1 j2 j3 j4 j5 j6).trans (by rw [eM 253 (by omega) (by omega)])
    refine ⟨rfl, by rw [f2.1.1], 0, nr, rs, X, Y, q.nw hl ha (f2.St S1) (by rw [f2.1.1, k1]; exact nw_len hl) K1 (fun b hb hb2 => K2 b hb (by omega)) (fun b hb hb2 => K3 b hb (by unfold stB at hb2; omega) (by unfold stB at hb2; omega)) (by rw [F 2 (by omega)]; exact b1) z2 (K4 31 (by decide) (by decide) (by decide) (by decide) (by decide) (by decide)) (K4 36 (by decide) (by decide) (by decide) (by decide) (by decide) (by decide)) ?_ ?_ (Q7.up (Nat.le_succ n) (Nat.le_refl nr)) ?_⟩
    · exact Q5.nw hl K1 (fun b b1 b2 => K2 b b2 (fun y => by unfold sRow at b1; omega)) (fun b b1 b2 => K3 b b2 (fun y => by unfold sRow at b1; omega) (fun y => by unfold sRow at b1; omega)) (fun b b1 b2 => K3 b (by omega) (by omega) (by omega)) (by rw [K2 26 (by omega) (by decide)])
    · refine Q6.of2 (fun b hb => ?_)
      funext j
      unfold gN
      rw [K4 51 (by decide) (by decide) (by decide) (by decide) (by decide) (by decide)]
      by_cases z : b = 293
      · rw [if_pos z, if_pos z]
      · rw [if_neg z, if_neg z, K3 b (by omega) (by omega) (by omega)]
    · intro z
      rw [K2 51 (by omega) (by decide), K2 26 (by omega) (by decide)]
      exact Q8 z
