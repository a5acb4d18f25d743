/-! a rule told: both alike -/
theorem mRu.of2 {I I' : Nat → Nat → Int32} {k nr : Nat} {r : MR} (q : mRu I k r) (w : wfR r) (hk : k < nr) (e1 : ∀ i, i < 300 * nr → I' 281 i = I 281 i ∧ I' 282 i = I 282 i) (e2 : ∀ i, i ≠ nr → I' 283 i = I 283 i) (e3 : ∀ i, i < 12 * nr → I' 284 i = I 284 i ∧ I' 285 i = I 285 i ∧ I' 286 i = I 286 i) : mRu I' k r := by
  obtain ⟨q1, q2, q3⟩ := q
  have w1 := w.1
  have w2 := w.2.1
  refine ⟨by rw [e2 k (by omega)]; exact q1, fun j hj => ?_, fun c hc => ?_⟩
  · rw [(e1 (300 * k + j) (by omega)).1, (e1 (300 * k + j) (by omega)).2]; exact q2 j hj
  · rw [(e3 (12 * k + c) (by omega)).1, (e3 (12 * k + c) (by omega)).2.1, (e3 (12 * k + c) (by omega)).2.2]; exact q3 c hc
def rlB (nr b : Nat) : Prop := b = 1 ∨ b = 2 ∨ b = 18 ∨ (125 + 6 * nr ≤ b ∧ b ≤ 125 + 6 * nr + 4) ∨ b = 253 ∨ (281 ≤ b ∧ b ≤ 287)
theorem InvX.rl {n : Nat} {h h2 : jx_H} {t nr nr' : Nat} {rs rs' : Nat → MR} {X : MW} {Y : Nat → MW} (q : InvX n h t nr rs X Y) (hnr : nr < 6) (S2 : jx_St h2) (k1 : h2.1 = h.1) (eR : ∀ b, b ≠ 18 → h2.2.2.2 b = h.2.2.2 b) (eI : ∀ b, ¬ rlB nr b → h2.2.1 b = h.2.1 b)
    (x1 : h2.2.1 2 1 = 0) (x2 : h2.2.1 253 27 = 0) (x3 : h2.2.1 253 36 = h.2.1 253 36) (x4 : h2.2.1 253 51 = h.2.1 253 51) (y1 : nr ≤ nr') (y2 : nr' ≤ 6) (y3 : h2.2.1 1 4 = nI nr') (y4 : h2.2.1 253 31 = nI nr') (y5 : ∀ k, k < nr' → rR h2.2.1 (125 + 6 * k) (rs' k) ∧ mRu h2.2.1 k (rs' k) ∧ wfR (rs' k)) : InvX (n + 1) h2 0 nr' rs' X Y := by
  obtain ⟨q1, ⟨q2, q2'⟩, -, -, q5, q6, q7, q8, q9⟩ := q
  have RW : ∀ {w : Nat} {Z : MW}, (w = 26 ∨ 161 ≤ w ∧ w ≤ 230) → rW h w Z → rW h2 w Z := fun {w Z} hw r => r.of (fun b hb => eI b (fun z => by unfold sRow at hb; unfold rlB at z; omega)) (fun s hs hp => hp.cg (fun b _ _ => by rw [k1]) (fun b b1 b2 => eR b (fun z => by have := sRow_of hs b1 b2; unfold sRow at this; omega))) (fun b b1 b2 => eI b (fun z => by unfold rlB at z; omega)) (by rw [eR w (by omega)])
  refine ⟨S2, ⟨by rw [k1]; omega, by rw [x3]; exact q2'⟩, ⟨by decide, x1, x2, fun j hj => absurd hj (Nat.not_lt_zero j)⟩, ⟨y2, y3, y4, y5⟩, RW (Or.inl rfl) q5, ?_, q7.up (by omega) y1, ?_, fun k hk => ?_⟩
  · refine q6.of2 (fun b hb => ?_)
    funext j
    unfold gN
    rw [x4]
    by_cases z : b = 293
    · rw [if_pos z, if_pos z]
    · rw [if_neg z, if_neg z, eI b (fun y => by unfold rlB at y; omega)]
  · intro z
    rw [eR 51 (by decide), eR 26 (by decide)]
    exact q8 z
  · refine imgOK.up (n := n) (nr := nr) ?_ (by omega) y1
    unfold imgOK
    rw [eI 50 (by unfold rlB; omega), eI 303 (by unfold rlB; omega)]
    rcases q9 k hk with z | ⟨z1, z2, z3, z4, z5⟩
    · exact Or.inl z
    · exact Or.inr ⟨z1, z2, RW (Or.inr (by omega)) z3, mI_of (fun i hi => by rw [eI 302 (by unfold rlB; omega)]) hk z5 z4, z5⟩
set_option maxHeartbeats 1000000 in
theorem op_rule : jo Inv 5 12025 [] := by
  intro n h hn q
  obtain ⟨t, nr, rs, X, Y, q⟩ := q
  obtain ⟨Q1, ⟨Q2, Q2'⟩, ⟨t1, t2, t3, t4⟩, ⟨u1, u2, u3, u4⟩, Q5, Q6, Q7, Q8, Q9⟩ := id q
  by_cases n6 : nr = 6
  · subst n6
    refine (t_Db_rule_n 198 Q1 u2).mono (fun r h1 e => ?_)
    obtain ⟨rfl, rfl⟩ := e
    refine ⟨⟨rfl, rfl, sK253 Q1⟩, _, rfl, (t_Mo_rule_n 198 Q1 u3).mono (fun r h2 e => ?_)⟩
    obtain ⟨rfl, rfl⟩ := e
    exact ⟨rfl, rfl, t, 6, rs, X, Y, q.up (Nat.le_succ n)⟩
  · have hnr : nr < 6 := by omega
    have hT : bytT (h.2.1 3) t := fun j hj => by rw [(t4 j hj).1]; exact by_255 _
    have hU : bytT (mT h) t := fun j hj => by_255 _
    have eIT : itR (mT h) t 13 = itR (h.2.1 3) t 13 := (itR_cg (fun j hj => (t4 j hj).1) 13).symm
    have wf := rul_wf (T := h.2.1 3) (N := t) t1
    have C := t_Db_rule 167 (bc := 13) (bs := 206) (N := t) (nr := nr) (T := h.2.1 3) Q1 rfl t2 t1 hT u2 hnr
    have M0 := fun (h1 : jx_H) (S1 : jx_St h1) (e1 : h1.2.1 253 = h.2.1 253) (e2 : h1.2.1 280 = h.2.1 280) => t_Mo_rule 186 (bc := 0) (bs := 0) (h := h1) (N := t) (sl := nr) (U := mT h) S1 (by rw [e1]; exact t3) t1 (by funext j; unfold mT; rw [e2]) (fun j hj => by rw [e2]; exact (t4 j hj).2) hU (by rw [e1]; exact u3) hnr (by rw [e1]; exact Q2')
    rw [eIT] at M0
    generalize itR (h.2.1 3) t 13 = Z at C M0 wf
    refine C.mono (fun r h1 e => ?_)
    obtain ⟨S1, F1, b1, ko, kb⟩ := e
    have r1 : ∀ b, b ≠ 18 → h1.2.2.2 b = h.2.2.2 b := fun b hb => by rw [F1.1.2]; exact wR_ne _ _ _ hb
    have i1 : ∀ b, ¬ (b = 1 ∨ b = 2 ∨ b = 18 ∨ 125 + 6 * nr ≤ b ∧ b ≤ 125 + 6 * nr + 4) → h1.2.1 b = h.2.1 b := fun b hb => F1.2 b hb
    have c1 : h1.1 = h.1 := F1.1.1
    have M := M0 h1 S1 (i1 253 (by omega)) (i1 280 (by omega))
    have e0 : h1.2.1 0 = h.2.1 0 := i1 0 (by omega)
    by_cases c : Z.2.1.1 = 0
    · obtain ⟨rfl, k2, k3⟩ := ko c
      refine ⟨⟨e0, by rw [c1], sK253 S1⟩, _, rfl, M.mono (fun r h2 e => ?_)⟩
      obtain ⟨F2, z1, mo, -⟩ := e
      obtain ⟨rfl, m2, m3⟩ := mo c
      have i2 : ∀ b, ¬ (b = 253 ∨ 281 ≤ b ∧ b ≤ 287) → h2.2.1 b = h1.2.1 b := fun b hb => F2.1.2 b hb
      refine ⟨rfl, by rw [F2.1.1.1], 0, nr + 1, fun k => if k = nr then rulR Z else rs k, X, Y, q.rl hnr (F2.1.St S1) (F2.1.1.1.trans c1) (fun b hb => by rw [F2.1.1.2]; exact r1 b hb) (fun b hb => (i2 b (by unfold rlB at hb; omega)).trans (i1 b (by unfold rlB at hb; omega))) (by rw [i2 2 (by omega)]; exact b1) z1 (by rw [F2.2.1 36 (by omega), i1 253 (by omega)]) (by rw [F2.2.1 51 (by omega), i1 253 (by omega)]) (Nat.le_succ nr) (by omega) (by rw [i2 1 (by omega)]; exact k2) m2 (fun k hk => ?_)⟩
      by_cases kn : k = nr
      · rw [if_pos kn, kn]
        exact ⟨k3.of (fun b a1 a2 => i2 b (by omega)), m3, wf c⟩
      · rw [if_neg kn]
        obtain ⟨a1, a2, a3⟩ := u4 k (by omega)
        refine ⟨a1.of (fun b b1 b2 => (i2 b (by omega)).trans (i1 b (by omega))), a2.of2 a3 (nr := nr) (by omega) (fun i hi => ?_) (fun i hi => ?_) (fun i hi => ?_), a3⟩
        · have := F2.2.2.1 i hi
          rw [i1 281 (by omega), i1 282 (by omega)] at this
          exact this
        · have := F2.2.2.2.1 i hi
          rw [i1 283 (by omega)] at this
          exact this
        · have := F2.2.2.2.2 i hi
          rw [i1 284 (by omega), i1 285 (by omega), i1 286 (by omega)] at this
          exact this
    · obtain ⟨rfl, k2⟩ := kb c
      refine ⟨⟨e0, by rw [c1], sK253 S1⟩, _, rfl, M.mono (fun r h2 e => ?_)⟩
      obtain ⟨F2, z1, -, mb⟩ := e
      obtain ⟨rfl, m2⟩ := mb c
      have i2 : ∀ b, ¬ (b = 253 ∨ 281 ≤ b ∧ b ≤ 287) → h2.2.1 b = h1.2.1 b := fun b hb => F2.1.2 b hb
      refine ⟨rfl, by rw [F2.1.1.1], 0, nr, rs, X, Y, q.rl hnr (F2.1.St S1) (F2.1.1.1.trans c1) (fun b hb => by rw [F2.1.1.2]; exact r1 b hb) (fun b hb => (i2 b (by unfold rlB at hb; omega)).trans (i1 b (by unfold rlB at hb; omega))) (by rw [i2 2 (by omega)]; exact b1) z1 (by rw [F2.2.1 36 (by omega), i1 253 (by omega)]) (by rw [F2.2.1 51 (by omega), i1 253 (by omega)]) (Nat.le_refl nr) (by omega) (by rw [i2 1 (by omega)]; exact k2) m2 (fun k hk => ?_)⟩
      obtain ⟨a1, a2, a3⟩ := u4 k hk
      refine ⟨a1.of (fun b b1 b2 => (i2 b (by omega)).trans (i1 b (by omega))), a2.of2 a3 (nr := nr) hk (fun i hi => ?_) (fun i hi => ?_) (fun i hi => ?_), a3⟩
      · have := F2.2.2.1 i hi
        rw [i1 281 (by omega), i1 282 (by omega)] at this
        exact this
      · have := F2.2.2.2.1 i hi
        rw [i1 283 (by omega)] at this
        exact this
      · have := F2.2.2.2.2 i hi
        rw [i1 284 (by omega), i1 285 (by omega), i1 286 (by omega)] at this
        exact this
