/-! How the pictures are kept. -/
theorem rL.of {I I' : Nat → Nat → Int32} {a : Nat} {L : ML} (h : rL I a L) (e : ∀ b, a ≤ b → b ≤ a + 4 → I' b = I b) : rL I' a L := by
  unfold rL at h ⊢
  rw [e (a + 1) (by omega) (by omega), e (a + 2) (by omega) (by omega), e (a + 3) (by omega) (by omega), e (a + 4) (by omega) (by omega), e a (by omega) (by omega)]
  exact h
theorem rS.of {I I' : Nat → Nat → Int32} {a : Nat} {S : MS} (h : rS I a S) (e : ∀ b, a ≤ b → b ≤ a + 12 → I' b = I b) : rS I' a S := by
  obtain ⟨h1, h2, h3, h4, h5, h6⟩ := h
  unfold rS
  rw [e (a + 1) (by omega) (by omega), e (a + 2) (by omega) (by omega), e (a + 3) (by omega) (by omega), e (a + 4) (by omega) (by omega), e (a + 5) (by omega) (by omega), e (a + 6) (by omega) (by omega), e (a + 7) (by omega) (by omega), e a (by omega) (by omega)]
  exact ⟨h1, h2, h3, h4, h5, h6.of (fun b h1 h2 => e b (by omega) (by omega))⟩
/-- the rows of strips -/
def sRow (b : Nat) : Prop := (27 ≤ b ∧ b ≤ 39) ∨ (162 ≤ b ∧ b ≤ 174) ∨ (185 ≤ b ∧ b ≤ 197) ∨ (208 ≤ b ∧ b ≤ 220) ∨ (231 ≤ b ∧ b ≤ 243) ∨ 304 ≤ b
theorem sRow_of {s b : Nat} (h : sA s) (h1 : s ≤ b) (h2 : b ≤ s + 12) : sRow b := by
  unfold sA at h
  unfold sRow
  omega
theorem rW.of {h h' : jx_H} {w : Nat} {X : MW} (r : rW h w X) (eS : ∀ b, sRow b → h'.2.1 b = h.2.1 b) (eP : ∀ s, sA s → jx_Sp h s → jx_Sp h' s) (eW : ∀ b, w ≤ b → b ≤ w + 22 → h'.2.1 b = h.2.1 b) (eR : h'.2.2.2 w 0 = h.2.2.2 w 0) : rW h' w X := by
  obtain ⟨⟨s, r1, r2, r3, r4⟩, r5, r6, r7, r8⟩ := r
  refine ⟨⟨s, by rw [eR]; exact r1, r2, eP s r2 r3, r4.of (fun b h1 h2 => eS b (sRow_of r2 h1 h2))⟩, r5.of (fun b h1 h2 => eW b (by omega) (by omega)), ?_, ?_, ?_⟩
  · rw [eW w (by omega) (by omega)]; exact r6
  · rw [eW w (by omega) (by omega), eW (w + 19) (by omega) (by omega), eW (w + 20) (by omega) (by omega), eW (w + 21) (by omega) (by omega)]; exact r7
  · rw [eW w (by omega) (by omega), eW (w + 22) (by omega) (by omega)]; exact r8
theorem mW.of {g g' : Nat → Nat → Int32} {X : MW} (r : mW g X) (e : ∀ a, 253 ≤ a → a ≤ 303 → g' a = g a) : mW g' X := by
  unfold mW mSt mLa at r ⊢
  rw [e 254 (by omega) (by omega), e 255 (by omega) (by omega), e 256 (by omega) (by omega), e 257 (by omega) (by omega), e 258 (by omega) (by omega), e 259 (by omega) (by omega), e 260 (by omega) (by omega), e 261 (by omega) (by omega), e 262 (by omega) (by omega), e 263 (by omega) (by omega), e 264 (by omega) (by omega), e 265 (by omega) (by omega), e 266 (by omega) (by omega), e 267 (by omega) (by omega), e 268 (by omega) (by omega), e 269 (by omega) (by omega), e 292 (by omega) (by omega), e 293 (by omega) (by omega)]
  exact r
theorem gN_of {h h' : jx_H} (e : ∀ b, 253 ≤ b → b ≤ 303 → h'.2.1 b = h.2.1 b) (a : Nat) (h1 : 253 ≤ a) (h2 : a ≤ 303) : gN h' a = gN h a := by
  funext j
  unfold gN
  rw [e 253 (by omega) (by omega), e a h1 h2]
theorem gI_of {h h' : jx_H} (e : h'.2.1 302 = h.2.1 302) (k : Nat) : gI h' k = gI h k := by
  funext a j
  unfold gI
  rw [e]
theorem bdI.wk {x : Int32} {a b c d : Int} (h : bdI x a b) (h1 : c ≤ a) (h2 : b ≤ d) : bdI x c d := ⟨by have := h.1; omega, by have := h.2; omega⟩
theorem wfL.up {n n' mi nv : Nat} {L : ML} (h : wfL n mi nv L) (hn : n ≤ n') : wfL n' mi nv L := by
  obtain ⟨h1, h2, h3, N, h4, h5⟩ := h
  exact ⟨h1, fun v hv => ⟨(h2 v hv).1.wk (by omega) (by omega), (h2 v hv).2⟩, h3, N, by omega, h5⟩
theorem wfW.up {n n' nr nr' : Nat} {X : MW} (h : wfW n nr X) (hn : n ≤ n') (hr : nr ≤ nr') : wfW n' nr' X := by
  obtain ⟨h1, h2, h3, h4, h5, h6, h7⟩ := h
  refine ⟨h1, h2.up hn, ?_, h4, h5, h6, fun i hi => (h7 i hi).up hn⟩
  rcases h3 with h3 | ⟨f, h3, h3'⟩
  · exact Or.inl h3
  · exact Or.inr ⟨f, by omega, h3'⟩
theorem imgOK.up {h : jx_H} {n n' nr nr' : Nat} {Y : Nat → MW} {k : Nat} (q : imgOK h n nr Y k) (hn : n ≤ n') (hr : nr ≤ nr') : imgOK h n' nr' Y k := by
  rcases q with q | ⟨q1, q2, q3, q4, q5⟩
  · exact Or.inl q
  · exact Or.inr ⟨q1, q2, q3, q4, q5.up hn hr⟩
theorem InvX.up {n n' : Nat} {h : jx_H} {t nr : Nat} {rs : Nat → MR} {X : MW} {Y : Nat → MW} (q : InvX n h t nr rs X Y) (hn : n ≤ n') : InvX n' h t nr rs X Y := by
  obtain ⟨q1, q2, q3, q4, q5, q6, q7, q8, q9⟩ := q
  exact ⟨q1, ⟨by omega, q2.2⟩, q3, q4, q5, q6, q7.up hn (Nat.le_refl _), q8, fun k hk => (q9 k hk).up hn (Nat.le_refl _)⟩
theorem Inv.up {n : Nat} {h : jx_H} (q : Inv n h) : Inv (n + 1) h := by
  obtain ⟨t, nr, rs, X, Y, q⟩ := q
  exact ⟨t, nr, rs, X, Y, q.up (by omega)⟩
theorem Inv.cls {n : Nat} (h : jx_H) (q : Inv n h) : h.1[1]? = some (.inr (.inl 0)) ∧ h.1[253]? = some (.inr (.inl 12)) := by
  obtain ⟨t, nr, rs, X, Y, q⟩ := q
  exact ⟨sK1 q.1, sK253 q.1⟩
/-! writes: the row and the others -/
theorem wI_at (h : jx_H) (a k : Nat) (v : Int32) : (jx_wI h a k v).2.1 a = jx_up (h.2.1 a) k v := jx_row_self _ _ _
theorem wI_ne (h : jx_H) {a b : Nat} (k : Nat) (v : Int32) (hb : b ≠ a) : (jx_wI h a k v).2.1 b = h.2.1 b := jx_row_ne _ _ hb
theorem jx_St.wI {h : jx_H} (H : jx_St h) {a k : Nat} {v : Int32} : jx_St (jx_wI h a k v) := H
theorem jx_St.wL {h : jx_H} (H : jx_St h) {a k : Nat} {v : Int64} : jx_St (jx_wL h a k v) := H
theorem jx_St.cp {h : jx_H} (H : jx_St h) {a0 sp a dp n : Nat} : jx_St (jx_cpI h a0 sp a dp n) := H
theorem jx_La.wI {h : jx_H} {b : Nat} (H : jx_La h b) {a k : Nat} {v : Int32} : jx_La (jx_wI h a k v) b := H
theorem jx_La.wL {h : jx_H} {b : Nat} (H : jx_La h b) {a k : Nat} {v : Int64} : jx_La (jx_wL h a k v) b := H
theorem jx_La.cp {h : jx_H} {b : Nat} (H : jx_La h b) {a0 sp a dp n : Nat} : jx_La (jx_cpI h a0 sp a dp n) b := H
theorem jx_Sp.wI {h : jx_H} {b : Nat} (H : jx_Sp h b) {a k : Nat} {v : Int32} : jx_Sp (jx_wI h a k v) b := H
theorem jx_Sp.wL {h : jx_H} {b : Nat} (H : jx_Sp h b) {a k : Nat} {v : Int64} : jx_Sp (jx_wL h a k v) b := H
theorem jx_Sp.cp {h : jx_H} {b : Nat} (H : jx_Sp h b) {a0 sp a dp n : Nat} : jx_Sp (jx_cpI h a0 sp a dp n) b := H
theorem jx_Wo.wI {h : jx_H} {b : Nat} (H : jx_Wo h b) {a k : Nat} {v : Int32} : jx_Wo (jx_wI h a k v) b := H
theorem jx_Wo.cp {h : jx_H} {b : Nat} (H : jx_Wo h b) {a0 sp a dp n : Nat} : jx_Wo (jx_cpI h a0 sp a dp n) b := H
theorem jx_Rl.wI {h : jx_H} {b : Nat} (H : jx_Rl h b) {a k : Nat} {v : Int32} : jx_Rl (jx_wI h a k v) b := H
theorem jx_Rl.wL {h : jx_H} {b : Nat} (H : jx_Rl h b) {a k : Nat} {v : Int64} : jx_Rl (jx_wL h a k v) b := H
/-- rows of the class that hold no strip of a world: what an operation on them alone leaves as it was -/
def keepC (h h' : jx_H) : Prop := h'.1 = h.1 ∧ h'.2.2.2 = h.2.2.2 ∧ ∀ b, sRow b ∨ b = 0 ∨ (253 ≤ b ∧ b ≤ 303) → h'.2.1 b = h.2.1 b
/-- the model's work: all rows but its own are kept -/
def keepM (h h' : jx_H) : Prop := h'.1 = h.1 ∧ h'.2.2.2 = h.2.2.2 ∧ ∀ b, b < 253 ∨ 304 ≤ b → h'.2.1 b = h.2.1 b
theorem jx_Sp.eq {h h' : jx_H} {s : Nat} (H : jx_Sp h s) (e1 : h'.1 = h.1) (e2 : h'.2.2.2 = h.2.2.2) : jx_Sp h' s := by
  unfold jx_Sp jx_Sp0 jx_La at H ⊢
  rw [e1, e2]
  exact H
theorem jx_St.eq {h h' : jx_H} (H : jx_St h) (e1 : h'.1 = h.1) (e2 : h'.2.2.2 = h.2.2.2) : jx_St h' := ⟨by rw [e1]; exact H.1, by rw [e2]; exact H.2⟩
