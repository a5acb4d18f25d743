/-! When only the world of now changes. -/
theorem mI_of {h h' : jx_H} (e : ∀ i, i < 4400 → h'.2.1 302 i = h.2.1 302 i) {k n nr : Nat} (hk : k < 4) {X : MW} (w : wfW n nr X) (r : mW (gI h k) X) : mW (gI h' k) X := by
  obtain ⟨⟨r1, r2, r3, r4, r5, r6⟩, ⟨s1, s2, s3, s4⟩, ⟨f1, f2⟩, ⟨l1, l2⟩, p1, p2⟩ := r
  obtain ⟨⟨-, w1, w2, -⟩, -, -, -, ⟨w3, -⟩, w4, -⟩ := w
  have key : ∀ a j : Nat, gO a + j < 1100 → gI h' k a j = gI h k a j := fun a j hj => e _ (by omega)
  refine ⟨⟨?_, fun j hj => ?_, fun v hv => ?_, fun v hv => ?_, fun m hm => ?_, ?_⟩, ⟨fun m hm => ?_, fun v hv => ?_, ?_, ?_⟩, ⟨?_, ?_⟩, ⟨?_, fun k0 hk0 => ?_⟩, ?_, fun i hi => ?_⟩
  · rw [key _ _ (by decide), key _ _ (by decide), key _ _ (by decide), key _ _ (by decide)]; exact r1
  · rw [key _ _ (by show 48 + j < 1100; omega)]; exact r2 j hj
  · rw [key _ _ (by show 148 + v < 1100; omega), key _ _ (by show 156 + v < 1100; omega), key _ _ (by show 164 + v < 1100; omega)]; exact r3 v hv
  · rw [key _ _ (by show 172 + v < 1100; omega), key _ _ (by show 180 + v < 1100; omega)]; exact r4 v hv
  · rw [key _ _ (by show 218 + m < 1100; omega)]; exact r5 m hm
  · rw [key _ _ (by decide)]; exact r6
  · rw [key _ _ (by show 9 + m < 1100; omega), key _ _ (by show 19 + m < 1100; omega), key _ _ (by show 29 + m < 1100; omega)]; exact s1 m hm
  · rw [key _ _ (by show 39 + v < 1100; omega)]; exact s2 v hv
  · rw [key _ _ (by decide)]; exact s3
  · rw [key _ _ (by decide)]; exact s4
  · rw [key _ _ (by decide)]; exact f1
  · rw [key _ _ (by decide)]; exact f2
  · rw [key _ _ (by decide)]; exact l1
  · rw [key _ _ (by show 188 + k0 < 1100; omega), key _ _ (by show 198 + k0 < 1100; omega), key _ _ (by show 208 + k0 < 1100; omega)]; exact l2 k0 hk0
  · rw [key _ _ (by decide)]; exact p1
  · obtain ⟨q1, q2, q3, q4⟩ := p2 i hi
    refine ⟨?_, ?_, fun m hm => ?_, fun v hv => ?_⟩
    · show gI h' k 292 (40 * i + 0) = _
      rw [key _ _ (by show 229 + (40 * i + 0) < 1100; omega)]; exact q1
    · show gI h' k 292 (40 * i + 1) = _
      rw [key _ _ (by show 229 + (40 * i + 1) < 1100; omega)]; exact q2
    · show gI h' k 292 (40 * i + (2 + m)) = _ ∧ gI h' k 292 (40 * i + (12 + m)) = _ ∧ gI h' k 292 (40 * i + (22 + m)) = _
      rw [key _ _ (by show 229 + (40 * i + (2 + m)) < 1100; omega), key _ _ (by show 229 + (40 * i + (12 + m)) < 1100; omega), key _ _ (by show 229 + (40 * i + (22 + m)) < 1100; omega)]; exact q3 m hm
    · show gI h' k 292 (40 * i + (32 + v)) = _
      rw [key _ _ (by show 229 + (40 * i + (32 + v)) < 1100; omega)]; exact q4 v hv
/-- rows that hold neither the world of now nor scratch -/
def kRow (b : Nat) : Prop := sRow b ∨ b ≤ 3 ∨ b = 50 ∨ (125 ≤ b ∧ b ≤ 252) ∨ (280 ≤ b ∧ b ≤ 286) ∨ b = 303
def keepN (h h' : jx_H) : Prop := (h'.1 = h.1 ∧ h'.2.2.2 = h.2.2.2) ∧ (∀ b, kRow b → h'.2.1 b = h.2.1 b) ∧ (∀ i, i < 4400 → h'.2.1 302 i = h.2.1 302 i) ∧ h'.2.1 253 27 = h.2.1 253 27 ∧ h'.2.1 253 31 = h.2.1 253 31 ∧ h'.2.1 253 36 = h.2.1 253 36
theorem keepN.rf {h : jx_H} : keepN h h := ⟨⟨rfl, rfl⟩, fun _ _ => rfl, fun _ _ => rfl, rfl, rfl, rfl⟩
theorem keepN.tr {h1 h2 h3 : jx_H} (a : keepN h1 h2) (b : keepN h2 h3) : keepN h1 h3 := ⟨⟨b.1.1.trans a.1.1, b.1.2.trans a.1.2⟩, fun q hq => (b.2.1 q hq).trans (a.2.1 q hq), fun i hi => (b.2.2.1 i hi).trans (a.2.2.1 i hi), b.2.2.2.1.trans a.2.2.2.1, b.2.2.2.2.1.trans a.2.2.2.2.1, b.2.2.2.2.2.trans a.2.2.2.2.2⟩
theorem keepN.wI {h h' : jx_H} (q : keepN h h') {a k : Nat} {v : Int32} (ha : ¬ kRow a ∧ a ≠ 302 ∧ a ≠ 253) : keepN h (jx_wI h' a k v) :=
  ⟨q.1, fun b hb => (wI_ne h' k v (fun (e : b = a) => ha.1 (by rw [← e]; exact hb))).trans (q.2.1 b hb), fun i hi => by rw [wI_ne h' k v (Ne.symm ha.2.1)]; exact q.2.2.1 i hi, by rw [wI_ne h' k v (Ne.symm ha.2.2)]; exact q.2.2.2.1, by rw [wI_ne h' k v (Ne.symm ha.2.2)]; exact q.2.2.2.2.1, by rw [wI_ne h' k v (Ne.symm ha.2.2)]; exact q.2.2.2.2.2⟩
theorem keepN.wM {h h' : jx_H} (q : keepN h h') {k : Nat} {v : Int32} (hk : k ≠ 27 ∧ k ≠ 31 ∧ k ≠ 36) : keepN h (jx_wI h' 253 k v) :=
  ⟨q.1, fun b hb => (wI_ne h' k v (by intro e; subst e; unfold kRow sRow at hb; omega)).trans (q.2.1 b hb), fun i hi => by rw [wI_ne h' k v (by decide)]; exact q.2.2.1 i hi, by rw [wI_at, jx_up_ne _ _ (Ne.symm hk.1)]; exact q.2.2.2.1, by rw [wI_at, jx_up_ne _ _ (Ne.symm hk.2.1)]; exact q.2.2.2.2.1, by rw [wI_at, jx_up_ne _ _ (Ne.symm hk.2.2)]; exact q.2.2.2.2.2⟩
theorem rR.of {I I' : Nat → Nat → Int32} {a : Nat} {r : MR} (q : rR I a r) (e : ∀ b, a ≤ b → b ≤ a + 5 → I' b = I b) : rR I' a r := by
  unfold rR at q ⊢
  rw [e a (by omega) (by omega), e (a + 1) (by omega) (by omega), e (a + 2) (by omega) (by omega), e (a + 3) (by omega) (by omega), e (a + 4) (by omega) (by omega)]
  exact q
theorem mRu.of {I I' : Nat → Nat → Int32} {k : Nat} {r : MR} (q : mRu I k r) (e : ∀ b, 281 ≤ b → b ≤ 286 → I' b = I b) : mRu I' k r := by
  unfold mRu at q ⊢
  rw [e 281 (by omega) (by omega), e 282 (by omega) (by omega), e 283 (by omega) (by omega), e 284 (by omega) (by omega), e 285 (by omega) (by omega), e 286 (by omega) (by omega)]
  exact q
theorem imgOK.of {h h' : jx_H} (e : keepN h h') {n nr : Nat} {Y : Nat → MW} {k : Nat} (hk : k < 4) (q : imgOK h n nr Y k) : imgOK h' n nr Y k := by
  obtain ⟨⟨e1, e2⟩, e3, e4, -⟩ := e
  have h50 : h'.2.1 50 = h.2.1 50 := e3 50 (by unfold kRow; omega)
  have h303 : h'.2.1 303 = h.2.1 303 := e3 303 (by unfold kRow; omega)
  unfold imgOK
  rw [h50, h303]
  rcases q with q | ⟨q1, q2, q3, q4, q5⟩
  · exact Or.inl q
  · exact Or.inr ⟨q1, q2, q3.of (fun b hb => e3 b (Or.inl hb)) (fun s _ hs => hs.eq e1 e2) (fun b h1 h2 => e3 b (by unfold kRow; omega)) (by rw [e2]), mI_of e4 hk q5 q4, q5⟩
theorem InvX.now {n : Nat} {h h' : jx_H} {t nr : Nat} {rs : Nat → MR} {X X' : MW} {Y : Nat → MW} (q : InvX n h t nr rs X Y) (e : keepN h h') (r : rW h' 26 X') (m : mW (gN h') X') (w : wfW (n + 1) nr X') (l : lawOK h' X') : InvX (n + 1) h' t nr rs X' Y := by
  obtain ⟨q1, ⟨q2, q2'⟩, ⟨t1, t2, t3, t4⟩, ⟨r1, r2, r3, r4⟩, -, -, -, -, q9⟩ := q
  obtain ⟨⟨e1, e2⟩, e3, e4, e5, e6, e7⟩ := id e
  refine ⟨q1.eq e1 e2, ⟨by rw [e1]; omega, by rw [e7]; exact q2'⟩, ⟨t1, ?_, by rw [e5]; exact t3, ?_⟩, ⟨r1, ?_, by rw [e6]; exact r3, fun k hk => ?_⟩, r, m, w, l, fun k hk => ((q9 k hk).of e hk).up (by omega) (Nat.le_refl _)⟩
  · rw [e3 2 (by unfold kRow; omega)]; exact t2
  · rw [e3 3 (by unfold kRow; omega), e3 280 (by unfold kRow; omega)]; exact t4
  · rw [e3 1 (by unfold kRow; omega)]; exact r2
  · obtain ⟨a1, a2, a3⟩ := r4 k hk
    exact ⟨a1.of (fun b h1 h2 => e3 b (by unfold kRow; omega)), a2.of (fun b h1 h2 => e3 b (by unfold kRow; omega)), a3⟩
theorem lawOK.of {h h' : jx_H} {X X' : MW} (q : lawOK h X) (e : h'.2.2.2 = h.2.2.2) (e1 : X'.1 = X.1) (e2 : X'.2.2.1.1 = X.2.2.1.1) : lawOK h' X' := by
  unfold lawOK at q ⊢
  rw [e, e1, e2]
  exact q
