/-! The judgement jx_Ev: a method's code from a place on, over a plain picture of the heap (kinds of cells, ints, longs, references), under a room; and jx_Tr: a method's contract in these words. -/
abbrev jx_G : Type := va_G × (Nat → ClassId) × Nat × (Nat → Nat) × Nat × Heap
def jg_D (G : jx_G) : va_G := G.1
def jg_a (G : jx_G) : Nat → ClassId := G.2.1
def jg_b (G : jx_G) : Nat := G.2.2.1
def jg_x (G : jx_G) : Nat → Nat := G.2.2.2.1
def jg_s (G : jx_G) : Nat := G.2.2.2.2.1
def jg_H (G : jx_G) : Heap := G.2.2.2.2.2
def jx_ad (G : jx_G) (k : Nat) : Nat := if k = 0 then jg_s G else if k < 1000000 then jg_b G + (k - 1) else jg_x G (k - 1000000)
def jx_cv (G : jx_G) : Value → Value
  | .ref k => .ref (jx_ad G k)
  | v => v
theorem jx_cv_cat (G : jx_G) (v : Value) : (jx_cv G v).category = v.category := by cases v <;> rfl
theorem jx_cv_sum (G : jx_G) (st : List Value) : ((st.map (jx_cv G)).map fun v => v.category).sum = (st.map fun v => v.category).sum := by
  rw [List.map_map]
  congr 1
  apply List.map_congr_left
  intro v _
  exact jx_cv_cat G v
def jx_rf (G : jx_G) : Option Nat → Value
  | none => .null
  | some k => .ref (jx_ad G k)
def jx_rv : Option Nat → Value
  | none => .null
  | some k => .ref k
theorem jx_cv_rv (G : jx_G) (r : Option Nat) : jx_cv G (jx_rv r) = jx_rf G r := by cases r <;> rfl
abbrev jx_K : Type := (Nat × Nat) ⊕ (Nat ⊕ (Nat × Nat))
abbrev jx_H : Type := List jx_K × (Nat → Nat → Int32) × (Nat → Nat → Int64) × (Nat → Nat → Option Nat)
def jx_row {α : Type} (f : Nat → Nat → α) (a : Nat) (g : Nat → α) : Nat → Nat → α := fun a' => if a' = a then g else f a'
def jx_up {α : Type} (g : Nat → α) (k : Nat) (v : α) : Nat → α := fun j => if j = k then v else g j
def jx_wI (h : jx_H) (a k : Nat) (v : Int32) : jx_H := (h.1, jx_row h.2.1 a (jx_up (h.2.1 a) k v), h.2.2.1, h.2.2.2)
def jx_wL (h : jx_H) (a k : Nat) (v : Int64) : jx_H := (h.1, h.2.1, jx_row h.2.2.1 a (jx_up (h.2.2.1 a) k v), h.2.2.2)
def jx_wR (h : jx_H) (a k : Nat) (v : Option Nat) : jx_H := (h.1, h.2.1, h.2.2.1, jx_row h.2.2.2 a (jx_up (h.2.2.2 a) k v))
def jx_cpI (h : jx_H) (a0 sp a dp n : Nat) : jx_H := (h.1, jx_row h.2.1 a (va_cpy (h.2.1 a0) (h.2.1 a) sp dp n), h.2.2.1, h.2.2.2)
/-- a new cell behind all -/
def jx_new (h : jx_H) (k : jx_K) : jx_H := (h.1 ++ [k], jx_row h.2.1 h.1.length (fun _ => 0), jx_row h.2.2.1 h.1.length (fun _ => 0), jx_row h.2.2.2 h.1.length (fun _ => none))
def jx_val (G : jx_G) (ty : FieldType) (i : Int32) (l : Int64) (r : Option Nat) : Value := match ty with
  | .long => .long l
  | .object _ => jx_rf G r
  | .array _ => jx_rf G r
  | _ => .int i
def jx_cell (G : jx_G) (h : jx_H) (a : Nat) (H : Heap) : jx_K → Prop
  | .inl q => if q.1 = 5 then ∃ scr : Cell, H[jg_s G]? = some scr ∧ scr.vm ≠ .unknown ∧ scr.slots.size = q.2 ∧ ∀ j : Nat, j < q.2 → scr.slots[j]? = some (.int (h.2.1 a j))
      else if q.1 = 2 then H[jx_ad G a]? = some (arrV (jg_a G 2) q.2 (fun j => .long (h.2.2.1 a j)))
      else H[jx_ad G a]? = some (arrV (jg_a G q.1) q.2 (fun j => .int (h.2.1 a j)))
  | .inr (.inl c) => t_OB (jx_ad G a) ((jg_D G).1 c) (jn_N c) ((jg_D G).2 c) H (fun k => jx_val G (jn_ty c k) (h.2.1 a k) (h.2.2.1 a k) (h.2.2.2 a k))
  | .inr (.inr q) => H[jx_ad G a]? = some (arrV (jg_a G (40 + q.1)) q.2 (fun j => jx_rf G (h.2.2.2 a j)))
def jx_Rel (G : jx_G) (h : jx_H) (H : Heap) : Prop :=
  ((jg_H G).size = jg_b G ∧ jg_s G < jg_b G) ∧ (∀ q : Nat, q < jg_b G → H[q]? = (jg_H G)[q]?) ∧ (H.size + 1 = jg_b G + h.1.length ∧ h.1.length < 1000000 ∧ 1 ≤ h.1.length) ∧ (∀ k : jx_K, h.1[0]? = some k → ∃ n, k = .inl (5, n)) ∧ (∀ (a n : Nat), h.1[a]? = some (.inl (5, n)) → a = 0) ∧
  ∀ (a : Nat) (k : jx_K), h.1[a]? = some k → jx_cell G h a H k
theorem jx_ad_lt {G : jx_G} {h : jx_H} {H : Heap} (r : jx_Rel G h H) {a : Nat} {k : jx_K} (ha : h.1[a]? = some k) : a < h.1.length ∧ a < 1000000 := by
  have h1 := (List.getElem?_eq_some_iff.mp ha).1
  exact ⟨h1, Nat.lt_trans h1 r.2.2.1.2.1⟩
theorem jx_ad_ne {G : jx_G} {h : jx_H} {H : Heap} (r : jx_Rel G h H) {a b : Nat} {k k' : jx_K} (ha : h.1[a]? = some k) (hb : h.1[b]? = some k') (hne : a ≠ b) : jx_ad G a ≠ jx_ad G b := by
  have h1 := jx_ad_lt r ha
  have h2 := jx_ad_lt r hb
  have h3 := r.1.2
  unfold jx_ad
  split
  · split
    · omega
    · split <;> omega
  · split
    · split
      · omega
      · split <;> omega
    · omega
theorem jx_ad_pos {G : jx_G} {h : jx_H} {H : Heap} (r : jx_Rel G h H) {a : Nat} {k : jx_K} (ha : h.1[a]? = some k) (hk : ∀ n, k ≠ .inl (5, n)) : a ≠ 0 ∧ jg_b G ≤ jx_ad G a := by
  have h1 := jx_ad_lt r ha
  have h0 : a ≠ 0 := by
    intro e
    subst e
    obtain ⟨n, hn⟩ := r.2.2.2.1 k ha
    exact hk n hn
  refine ⟨h0, ?_⟩
  unfold jx_ad
  rw [if_neg h0, if_pos h1.2]
  omega
theorem jx_cell.kept {G : jx_G} {h h' : jx_H} {H H' : Heap} {a : Nat} {k : jx_K} (hc : jx_cell G h a H k) (o1 : h'.2.1 a = h.2.1 a) (o2 : h'.2.2.1 a = h.2.2.1 a) (o3 : h'.2.2.2 a = h.2.2.2 a) (q1 : H'[jx_ad G a]? = H[jx_ad G a]?) (q2 : H'[jg_s G]? = H[jg_s G]?) : jx_cell G h' a H' k := by
  match k, hc with
  | .inl q, hc =>
    simp only [jx_cell] at hc ⊢
    rw [o1, o2, q1, q2]
    exact hc
  | .inr (.inl c), hc =>
    simp only [jx_cell] at hc ⊢
    rw [o1, o2, o3]
    exact hc.kept q1
  | .inr (.inr q), hc =>
    simp only [jx_cell] at hc ⊢
    rw [o3, q1]
    exact hc
theorem jx_Rel.put {G : jx_G} {h h' : jx_H} {H H' : Heap} (r : jx_Rel G h H) {a : Nat} {k : jx_K} (ha : h.1[a]? = some k) (hk : ∀ n, k ≠ .inl (5, n)) (hz : H'.size = H.size) (hq : ∀ q : Nat, q ≠ jx_ad G a → H'[q]? = H[q]?)
    (h1 : h'.1 = h.1) (ho : ∀ b, b ≠ a → h'.2.1 b = h.2.1 b ∧ h'.2.2.1 b = h.2.2.1 b ∧ h'.2.2.2 b = h.2.2.2 b) (hc : jx_cell G h' a H' k) : jx_Rel G h' H' := by
  obtain ⟨r1, r2, r3, r4, r5, r6⟩ := id r
  obtain ⟨p1, p2⟩ := jx_ad_pos r ha hk
  refine ⟨r1, fun q hq' => ?_, by rw [h1, hz]; exact r3, by rw [h1]; exact r4, by rw [h1]; exact r5, fun b kb hb => ?_⟩
  · rw [hq q (by omega)]
    exact r2 q hq'
  · rw [h1] at hb
    by_cases e : b = a
    · subst e
      cases ha.symm.trans hb
      exact hc
    · have hne := jx_ad_ne r hb ha e
      have hcell := r6 b kb hb
      obtain ⟨o1, o2, o3⟩ := ho b e
      exact hcell.kept o1 o2 o3 (hq _ hne) (hq _ (by have := r1.2; omega))
theorem jx_Rel.push {G : jx_G} {h : jx_H} {H H' : Heap} (r : jx_Rel G h H) {k : jx_K} (hk : ∀ n, k ≠ .inl (5, n)) (hlen : h.1.length + 1 < 1000000) (hz : H'.size = H.size + 1) (hq : ∀ q : Nat, q < H.size → H'[q]? = H[q]?)
    (hc : jx_cell G (jx_new h k) h.1.length H' k) : jx_Rel G (jx_new h k) H' := by
  obtain ⟨r1, r2, r3, r4, r5, r6⟩ := id r
  have hl : (jx_new h k).1.length = h.1.length + 1 := by simp [jx_new]
  refine ⟨r1, fun q hq' => ?_, ⟨by rw [hl, hz]; omega, by rw [hl]; exact hlen, by rw [hl]; omega⟩, fun k' h0 => ?_, fun b n hb => ?_, fun b kb hb => ?_⟩
  · rw [hq q (by omega)]
    exact r2 q hq'
  · have e : (jx_new h k).1[0]? = h.1[0]? := by
      show (h.1 ++ [k])[0]? = _
      rw [List.getElem?_append_left (by omega)]
    rw [e] at h0
    exact r4 k' h0
  · have hb' : (h.1 ++ [k])[b]? = some (.inl (5, n)) := hb
    by_cases e : b < h.1.length
    · rw [List.getElem?_append_left e] at hb'
      exact r5 b n hb'
    · rw [List.getElem?_append_right (by omega)] at hb'
      have hz1 : b - h.1.length < 1 := (List.getElem?_eq_some_iff.mp hb').1
      rw [show b - h.1.length = 0 by omega] at hb'
      cases hb'
      exact absurd rfl (hk n)
  · have hb' : (h.1 ++ [k])[b]? = some kb := hb
    by_cases e : b < h.1.length
    · rw [List.getElem?_append_left e] at hb'
      have hcell := r6 b kb hb'
      have hne : b ≠ h.1.length := by omega
      have o1 : (jx_new h k).2.1 b = h.2.1 b := by simp [jx_new, jx_row, hne]
      have o2 : (jx_new h k).2.2.1 b = h.2.2.1 b := by simp [jx_new, jx_row, hne]
      have o3 : (jx_new h k).2.2.2 b = h.2.2.2 b := by simp [jx_new, jx_row, hne]
      have hlt : jx_ad G b < H.size := by
        unfold jx_ad
        have := r1.2
        have := r3.1
        split
        · omega
        · rw [if_pos (by omega)]; omega
      exact hcell.kept o1 o2 o3 (hq _ hlt) (hq _ (by have := r1.2; omega))
    · rw [List.getElem?_append_right (by omega)] at hb'
      have hz1 : b - h.1.length < 1 := (List.getElem?_eq_some_iff.mp hb').1
      rw [show b - h.1.length = 0 by omega] at hb'
      cases hb'
      rw [show b = h.1.length by omega]
      exact hc
