/-! Rules of jx_Ev: fields, arrays, new cells. -/
theorem jx_val_read {G : jx_G} {ty : FieldType} {i : Int32} {l : Int64} {r : Option Nat} : jx_val G ty i l r = jx_cv G (match ty with | .long => .long l | .object _ => jx_rv r | .array _ => jx_rv r | _ => .int i) := by
  cases ty <;> simp [jx_val, jx_cv_rv] <;> rfl
/-- field k of class c at a, as a value -/
def jx_fv (h : jx_H) (c a k : Nat) : Value := match jn_ty c k with
  | .long => .long (h.2.2.1 a k)
  | .object _ => jx_rv (h.2.2.2 a k)
  | .array _ => jx_rv (h.2.2.2 a k)
  | _ => .int (h.2.1 a k)
section JH
variable {d bc bs i pc : Nat} {lv : List (Option Value)} {st : List Value} {h : jx_H} {Q : Option Value → jx_H → Prop}
theorem je_get {x c0 k0 a : Nat} {v : Value} (hd : decode (jm_b i) pc = .ok (.getfield x, 3)) (hf : jx_F (jm_o i) x c0 k0) (ha : h.1[a]? = some (.inr (.inl c0))) (hv : jx_fv h c0 a k0 = v) (k : jx_Ev d bc bs i (pc + 3) lv (v :: st) h Q) : jx_Ev d bc bs i pc lv (.ref a :: st) h Q := by
  refine je_gen (fun {p l e R s m args below meth c H locs cells slots Z G ls} F r hl _ k => ?_) k
  obtain ⟨⟨hx, hb, hml⟩, ⟨hown, hts, hK⟩, -, -⟩ := F
  obtain ⟨hlk, hc, hk⟩ := hf
  have hcell : jx_cell G h a H (.inr (.inl c0)) := r.2.2.2.2.2 a _ ha
  simp only [jx_cell] at hcell
  obtain ⟨cell, q1, q2, q3, q4⟩ := hcell
  obtain ⟨hS, hfc, kC, hkC, hkind⟩ := hK.1.1 c0 _ (jn_cl_at c0 hc)
  obtain ⟨cf, kf, fi, f, hi, hsl⟩ := hS k0 hk
  refine W.getf hx hb hown (hts _ hlk) hi (u_facts hfc hkC (u_lays hts (jn_lay c0 hc) hk) hi).1 q1 (by rw [q3]; exact fun h => by cases h) (v := jx_cv G v) ?_ rfl rfl hd k
  rw [hsl, q4 k0 hk, ← hv]
  exact congrArg some (jx_val_read (G := G))
/-- the heap with field k of class c at a set to v -/
def jx_fw (h : jx_H) (c a k : Nat) (v : Value) : jx_H := match jn_ty c k, v with
  | .long, .long x => jx_wL h a k x
  | .object _, .ref x => jx_wR h a k (some x)
  | .array _, .ref x => jx_wR h a k (some x)
  | .object _, .null => jx_wR h a k none
  | .array _, .null => jx_wR h a k none
  | _, .int x => jx_wI h a k x
  | _, _ => h
/-- what field k of class c may be set to -/
def jx_fok (c k : Nat) (v : Value) : Prop := match jn_ty c k, v with
  | .long, .long _ => True
  | .object _, .ref _ => True
  | .array _, .ref _ => True
  | .object _, .null => True
  | .array _, .null => True
  | .int, .int _ => True
  | .boolean, .int x => x = 0 ∨ x = 1
  | _, _ => False
theorem jx_row_self {α : Type} (f : Nat → Nat → α) (a : Nat) (g : Nat → α) : jx_row f a g a = g := by simp [jx_row]
theorem jx_row_ne {α : Type} (f : Nat → Nat → α) {a b : Nat} (g : Nat → α) (h : b ≠ a) : jx_row f a g b = f b := by simp [jx_row, h]
theorem jx_up_self {α : Type} (g : Nat → α) (k : Nat) (v : α) : jx_up g k v k = v := by simp [jx_up]
theorem jx_up_ne {α : Type} (g : Nat → α) {k j : Nat} (v : α) (h : j ≠ k) : jx_up g k v j = g j := by simp [jx_up, h]
theorem jx_fw_fst (h : jx_H) (c a k : Nat) (v : Value) : (jx_fw h c a k v).1 = h.1 := by
  unfold jx_fw
  split <;> rfl
theorem jx_fw_ne (h : jx_H) (c a k : Nat) (v : Value) (b : Nat) (hb : b ≠ a) : (jx_fw h c a k v).2.1 b = h.2.1 b ∧ (jx_fw h c a k v).2.2.1 b = h.2.2.1 b ∧ (jx_fw h c a k v).2.2.2 b = h.2.2.2 b := by
  unfold jx_fw
  split <;> simp [jx_wI, jx_wL, jx_wR, jx_row, hb]
theorem jx_fw_val {G : jx_G} (h : jx_H) (c a k : Nat) (v : Value) (hok : jx_fok c k v) (j : Nat) : jx_val G (jn_ty c j) ((jx_fw h c a k v).2.1 a j) ((jx_fw h c a k v).2.2.1 a j) ((jx_fw h c a k v).2.2.2 a j) = updV (fun j => jx_val G (jn_ty c j) (h.2.1 a j) (h.2.2.1 a j) (h.2.2.2 a j)) k (jx_cv G v) j := by
  unfold jx_fok at hok
  unfold jx_fw
  by_cases e : j = k
  · subst e
    simp only [updV, if_pos]
    cases hty : jn_ty c j <;> cases v <;> simp_all [jx_val, jx_wI, jx_wL, jx_wR, jx_row, jx_up, jx_cv, jx_rf]
  · simp only [updV, if_neg e]
    split <;> simp [jx_wI, jx_wL, jx_wR, jx_row, jx_up, e]
theorem jx_fok_fits {G : jx_G} {c k : Nat} {v : Value} (hok : jx_fok c k v) : narrow (jn_ty c k) (jx_cv G v) = jx_cv G v ∧ fits (jn_ty c k) (jx_cv G v) = true := by
  unfold jx_fok at hok
  cases hty : jn_ty c k <;> cases v <;> simp_all [jx_cv, narrow, fits]
  rcases hok with rfl | rfl <;> decide
theorem je_put {x c0 k0 a : Nat} {v : Value} {h' : jx_H} (hd : decode (jm_b i) pc = .ok (.putfield x, 3)) (hf : jx_F (jm_o i) x c0 k0) (hfin : (jn_T c0 k0).2.2.2 = false) (ha : h.1[a]? = some (.inr (.inl c0))) (hok : jx_fok c0 k0 v) (hh : jx_fw h c0 a k0 v = h') (k : jx_Ev d bc bs i (pc + 3) lv st h' Q) : jx_Ev d bc bs i pc lv (v :: .ref a :: st) h Q := by
  subst hh
  intro p l e R s m args below meth c G H locs cells slots ls Z F r hl ho hcs hr
  obtain ⟨⟨hx, hb, hml⟩, ⟨hown, hts, hK⟩, -, -⟩ := id F
  obtain ⟨hlk, hc, hk⟩ := hf
  have hcell : jx_cell G h a H (.inr (.inl c0)) := r.2.2.2.2.2 a _ ha
  simp only [jx_cell] at hcell
  obtain ⟨cell, q1, q2, q3, q4⟩ := hcell
  obtain ⟨hS, hfc, kC, hkC, hkind⟩ := hK.1.1 c0 _ (jn_cl_at c0 hc)
  obtain ⟨cf, kf, fi, f, hi, hsl⟩ := hS k0 hk
  have hap := va_apart (own := jn_R (jm_o i)) hts (jn_lay c0 hc) (jn_ty c0) (jn_tyok c0 hc) (jn_nm c0 hc) hK.1 (jn_cl_at c0 hc)
  have hlay := hts _ (jn_lay c0 hc _ (u_in_lay hk))
  unfold u_lay at hlay
  rw [if_neg (by rw [hfin]; decide)] at hlay
  have hst := (u_facts hfc hkC (u_lays hts (jn_lay c0 hc) hk) hi).1
  have h6 := u_store hfc hkC hkind hlay hi (jn_tyok c0 hc k0 hk) (jx_fok_fits (G := G) hok).1 (jx_fok_fits (G := G) hok).2
  have hpos := jx_ad_pos r ha (fun n => by simp)
  refine W.putK hx hb (f := f) ⟨hown, hts _ hlk, ⟨_, _, _, hi⟩, hst⟩ (by rw [q2]; exact h6) q1 q3 (by rw [hsl]; exact k2_hasslot (q4 k0 hk)) rfl rfl hd fun H' e1 e2 e3 => ?_
  rw [hsl] at e1 ⊢
  refine k p l e R s m args below meth c G H' _ cells slots ls Z F (r.put ha (fun n => by simp) e2 e3 (jx_fw_fst ..) (fun b hb => jx_fw_ne h c0 a k0 v b hb) ?_) hl (fun q hq => ?_) hcs hr
  · simp only [jx_cell]
    exact t_OB.to ⟨_, e1, q2, q3, t_set q4 hap hk (jx_cv G v)⟩ (fun j _ => (jx_fw_val h c0 a k0 v hok j).symm)
  · rcases List.mem_append.mp hq with hq | hq
    · exact ho q hq
    · rw [List.mem_singleton.mp hq]; exact hpos.2
theorem je_putF {x c0 k0 a : Nat} {v : Value} {h' : jx_H} (hd : decode (jm_b i) pc = .ok (.putfield x, 3)) (hf : jx_F (jm_o i) x c0 k0) (hfin : (jn_T c0 k0).2.2.2 = true) (hi0 : (jm_y i).name = "<init>") (hco : c0 = jm_o i) (ha : h.1[a]? = some (.inr (.inl c0))) (hok : jx_fok c0 k0 v) (hh : jx_fw h c0 a k0 v = h') (k : jx_Ev d bc bs i (pc + 3) lv st h' Q) : jx_Ev d bc bs i pc lv (v :: .ref a :: st) h Q := by
  subst hh
  intro p l e R s m args below meth c G H locs cells slots ls Z F r hl ho hcs hr
  obtain ⟨⟨hx, hb, hml⟩, ⟨hown, hts, hK⟩, -, hnm⟩ := id F
  obtain ⟨hlk, hc, hk⟩ := hf
  have hcell : jx_cell G h a H (.inr (.inl c0)) := r.2.2.2.2.2 a _ ha
  simp only [jx_cell] at hcell
  obtain ⟨cell, q1, q2, q3, q4⟩ := hcell
  obtain ⟨hS, hfc, kC, hkC, hkind⟩ := hK.1.1 c0 _ (jn_cl_at c0 hc)
  obtain ⟨cf, kf, fi, f, hi, hsl⟩ := hS k0 hk
  have hap := va_apart (own := jn_R (jm_o i)) hts (jn_lay c0 hc) (jn_ty c0) (jn_tyok c0 hc) (jn_nm c0 hc) hK.1 (jn_cl_at c0 hc)
  have hlay := hts _ (jn_lay c0 hc _ (u_in_lay hk))
  unfold u_lay at hlay
  rw [if_pos hfin] at hlay
  have hst := (u_facts hfc hkC (u_lays hts (jn_lay c0 hc) hk) hi).1
  have hcf : m.cls = cf := by
    obtain ⟨_, _, c', _, _, _, -, -, hf', -, -, -, hown2, -⟩ := Cond.laysFinal_spec hlay
    have e1 : c' = cf := by have := hi.symm.trans hf'; simp at this; exact this.1.symm
    have hown' : s.vm.findClass (jn_R c0) = some m.cls := by rw [hco]; exact hown
    rw [← e1]; exact Option.some.inj (hown'.symm.trans hown2)
  have h6 := u_fits hfc hkC hkind (Or.inr hlay) hi (jn_tyok c0 hc k0 hk) (jx_fok_fits (G := G) hok).1 (jx_fok_fits (G := G) hok).2
  have hpos := jx_ad_pos r ha (fun n => by simp)
  refine W.putFinK hx hb hown (hts _ hlk) hi hst hcf (hnm hi0) (by rw [q2]; exact h6) q1 q3 (by rw [hsl]; exact k2_hasslot (q4 k0 hk)) rfl rfl hd fun H' e1 e2 e3 => ?_
  rw [hsl] at e1 ⊢
  refine k p l e R s m args below meth c G H' _ cells slots ls Z F (r.put ha (fun n => by simp) e2 e3 (jx_fw_fst ..) (fun b hb => jx_fw_ne h c0 a k0 v b hb) ?_) hl (fun q hq => ?_) hcs hr
  · simp only [jx_cell]
    exact t_OB.to ⟨_, e1, q2, q3, t_set q4 hap hk (jx_cv G v)⟩ (fun j _ => (jx_fw_val h c0 a k0 v hok j).symm)
  · rcases List.mem_append.mp hq with hq | hq
    · exact ho q hq
    · rw [List.mem_singleton.mp hq]; exact hpos.2
/-- index j stands in a row of n -/
def jx_ok (j : Int32) (n : Nat) : Prop := vp_in j n
theorem je_iald {a n : Nat} {j : Int32} (hd : decode (jm_b i) pc = .ok (.iaload, 1)) (ha : h.1[a]? = some (.inl (1, n))) (hj : jx_ok j n) (k : jx_Ev d bc bs i (pc + 1) lv (.int (h.2.1 a j.toNatClampNeg) :: st) h Q) : jx_Ev d bc bs i pc lv (.int j :: .ref a :: st) h Q := by
  refine je_gen (fun {p l e R s m args below meth c H locs cells slots Z G ls} F r hl _ k => ?_) k
  have hcell := r.2.2.2.2.2 a _ ha
  simp [jx_cell] at hcell
  have hlt : j.toNatClampNeg < n := Nat.not_le.mp fun q => hj (Or.inr q)
  exact W.iald (v := .int (h.2.1 a j.toNatClampNeg)) F.1.1 F.1.2.1 hcell ((F.2.1.2.2.2.1 (1, .int) (by simp [jx_prims])).1 n _) (fun q => by cases q) (by rw [arrV_size]; exact hj) (by rw [arrV_read _ _ hlt]) rfl rfl hd k
theorem je_bald {a n : Nat} {j : Int32} (hd : decode (jm_b i) pc = .ok (.baload, 1)) (ha : h.1[a]? = some (.inl (3, n))) (hj : jx_ok j n) (k : jx_Ev d bc bs i (pc + 1) lv (.int (h.2.1 a j.toNatClampNeg) :: st) h Q) : jx_Ev d bc bs i pc lv (.int j :: .ref a :: st) h Q := by
  refine je_gen (fun {p l e R s m args below meth c H locs cells slots Z G ls} F r hl _ k => ?_) k
  have hcell := r.2.2.2.2.2 a _ ha
  simp [jx_cell] at hcell
  have hlt : j.toNatClampNeg < n := Nat.not_le.mp fun q => hj (Or.inr q)
  exact W.bald (v := .int (h.2.1 a j.toNatClampNeg)) F.1.1 F.1.2.1 hcell ((F.2.1.2.2.2.1 (3, .byte) (by simp [jx_prims])).1 n _) (fun q => by cases q) (by rw [arrV_size]; exact hj) (by rw [arrV_read _ _ hlt]) rfl rfl hd k
theorem je_zald {a n : Nat} {j : Int32} (hd : decode (jm_b i) pc = .ok (.baload, 1)) (ha : h.1[a]? = some (.inl (4, n))) (hj : jx_ok j n) (k : jx_Ev d bc bs i (pc + 1) lv (.int (h.2.1 a j.toNatClampNeg) :: st) h Q) : jx_Ev d bc bs i pc lv (.int j :: .ref a :: st) h Q := by
  refine je_gen (fun {p l e R s m args below meth c H locs cells slots Z G ls} F r hl _ k => ?_) k
  have hcell := r.2.2.2.2.2 a _ ha
  simp [jx_cell] at hcell
  have hlt : j.toNatClampNeg < n := Nat.not_le.mp fun q => hj (Or.inr q)
  exact W.zald (v := .int (h.2.1 a j.toNatClampNeg)) F.1.1 F.1.2.1 hcell ((F.2.1.2.2.2.1 (4, .boolean) (by simp [jx_prims])).1 n _) (fun q => by cases q) (by rw [arrV_size]; exact hj) (by rw [arrV_read _ _ hlt]) rfl rfl hd k
theorem je_lald {a n : Nat} {j : Int32} (hd : decode (jm_b i) pc = .ok (.laload, 1)) (ha : h.1[a]? = some (.inl (2, n))) (hj : jx_ok j n) (k : jx_Ev d bc bs i (pc + 1) lv (.long (h.2.2.1 a j.toNatClampNeg) :: st) h Q) : jx_Ev d bc bs i pc lv (.int j :: .ref a :: st) h Q := by
  refine je_gen (fun {p l e R s m args below meth c H locs cells slots Z G ls} F r hl _ k => ?_) k
  have hcell := r.2.2.2.2.2 a _ ha
  simp [jx_cell] at hcell
  have hlt : j.toNatClampNeg < n := Nat.not_le.mp fun q => hj (Or.inr q)
  exact W.lald (v := .long (h.2.2.1 a j.toNatClampNeg)) F.1.1 F.1.2.1 hcell ((F.2.1.2.2.2.1 (2, .long) (by simp [jx_prims])).1 n _) (fun q => by cases q) (by rw [arrV_size]; exact hj) (by rw [arrV_read _ _ hlt]) rfl rfl hd k
/-- the script -/
theorem je_sald {n : Nat} {j : Int32} (hd : decode (jm_b i) pc = .ok (.iaload, 1)) (ha : h.1[0]? = some (.inl (5, n))) (hj : jx_ok j n) (k : jx_Ev d bc bs i (pc + 1) lv (.int (h.2.1 0 j.toNatClampNeg) :: st) h Q) : jx_Ev d bc bs i pc lv (.int j :: .ref 0 :: st) h Q := by
  refine je_gen (fun {p l e R s m args below meth c H locs cells slots Z G ls} F r hl _ k => ?_) k
  have hcell := r.2.2.2.2.2 0 _ ha
  simp [jx_cell] at hcell
  obtain ⟨scr, g1, g2, g3, g4⟩ := hcell
  have hlt : j.toNatClampNeg < n := Nat.not_le.mp fun q => hj (Or.inr q)
  exact W.iald (v := .int (h.2.1 0 j.toNatClampNeg)) F.1.1 F.1.2.1 g1 (F.2.1.2.2.2.2.2.2.1 scr (by rw [← r.2.1 _ r.1.2]; exact g1)) g2 (by rw [g3]; exact hj) (g4 _ hlt) rfl rfl hd k
theorem je_alen {a n t : Nat} (hd : decode (jm_b i) pc = .ok (.arraylength, 1)) (ha : h.1[a]? = some (.inl (t, n))) (ht : t = 1 ∨ t = 2 ∨ t = 3 ∨ t = 4) (k : jx_Ev d bc bs i (pc + 1) lv (.int (Int32.ofNat n) :: st) h Q) : jx_Ev d bc bs i pc lv (.ref a :: st) h Q := by
  refine je_gen (fun {p l e R s m args below meth c H locs cells slots Z G ls} F r hl _ k => ?_) k
  have hcell := r.2.2.2.2.2 a _ ha
  rcases ht with rfl | rfl | rfl | rfl
  · simp [jx_cell] at hcell
    exact W.alen F.1.1 F.1.2.1 hcell ((F.2.1.2.2.2.1 (1, .int) (by simp [jx_prims])).1 n _) (by rw [arrV_size]) rfl rfl hd k
  · simp [jx_cell] at hcell
    exact W.alen F.1.1 F.1.2.1 hcell ((F.2.1.2.2.2.1 (2, .long) (by simp [jx_prims])).1 n _) (by rw [arrV_size]) rfl rfl hd k
  · simp [jx_cell] at hcell
    exact W.alen F.1.1 F.1.2.1 hcell ((F.2.1.2.2.2.1 (3, .byte) (by simp [jx_prims])).1 n _) (by rw [arrV_size]) rfl rfl hd k
  · simp [jx_cell] at hcell
    exact W.alen F.1.1 F.1.2.1 hcell ((F.2.1.2.2.2.1 (4, .boolean) (by simp [jx_prims])).1 n _) (by rw [arrV_size]) rfl rfl hd k
theorem je_slen {n : Nat} (hd : decode (jm_b i) pc = .ok (.arraylength, 1)) (ha : h.1[0]? = some (.inl (5, n))) (k : jx_Ev d bc bs i (pc + 1) lv (.int (Int32.ofNat n) :: st) h Q) : jx_Ev d bc bs i pc lv (.ref 0 :: st) h Q := by
  refine je_gen (fun {p l e R s m args below meth c H locs cells slots Z G ls} F r hl _ k => ?_) k
  have hcell := r.2.2.2.2.2 0 _ ha
  simp [jx_cell] at hcell
  obtain ⟨scr, g1, g2, g3, g4⟩ := hcell
  exact W.alen F.1.1 F.1.2.1 g1 (F.2.1.2.2.2.2.2.2.1 scr (by rw [← r.2.1 _ r.1.2]; exact g1)) (by rw [g3]) rfl rfl hd k
theorem je_rlen {a n c0 : Nat} (hd : decode (jm_b i) pc = .ok (.arraylength, 1)) (hc0 : c0 ∈ jx_rcs) (ha : h.1[a]? = some (.inr (.inr (c0, n)))) (k : jx_Ev d bc bs i (pc + 1) lv (.int (Int32.ofNat n) :: st) h Q) : jx_Ev d bc bs i pc lv (.ref a :: st) h Q := by
  refine je_gen (fun {p l e R s m args below meth c H locs cells slots Z G ls} F r hl _ k => ?_) k
  have hcell := r.2.2.2.2.2 a _ ha
  simp [jx_cell] at hcell
  exact W.alen F.1.1 F.1.2.1 hcell ((F.2.1.2.2.2.2.1 c0 hc0).1 n _) (by rw [arrV_size]) rfl rfl hd k
theorem je_aald {a n c0 : Nat} {j : Int32} {v : Value} (hd : decode (jm_b i) pc = .ok (.aaload, 1)) (hc0 : c0 ∈ jx_rcs) (ha : h.1[a]? = some (.inr (.inr (c0, n)))) (hj : jx_ok j n) (hv : jx_rv (h.2.2.2 a j.toNatClampNeg) = v) (k : jx_Ev d bc bs i (pc + 1) lv (v :: st) h Q) : jx_Ev d bc bs i pc lv (.int j :: .ref a :: st) h Q := by
  refine je_gen (fun {p l e R s m args below meth c H locs cells slots Z G ls} F r hl _ k => ?_) k
  have hcell := r.2.2.2.2.2 a _ ha
  simp [jx_cell] at hcell
  have hlt : j.toNatClampNeg < n := Nat.not_le.mp fun q => hj (Or.inr q)
  exact W.aald (v := jx_cv G v) (ty := .object (jn_R c0)) F.1.1 F.1.2.1 hcell ((F.2.1.2.2.2.2.1 c0 hc0).1 n _) rfl (fun q => by cases q) (by rw [arrV_size]; exact hj) (by rw [arrV_read _ _ hlt, ← hv, jx_cv_rv]) rfl rfl hd k
theorem jx_ho {G : jx_G} {locs : List Loc} {a k : Nat} (ho : ∀ q ∈ locs, jg_b G ≤ q.base) (ha : jg_b G ≤ a) : ∀ q ∈ locs ++ [(⟨a, k⟩ : Loc)], jg_b G ≤ q.base := by
  intro q hq
  rcases List.mem_append.mp hq with hq | hq
  · exact ho q hq
  · rw [List.mem_singleton.mp hq]; exact ha
theorem je_iast {a n : Nat} {j x : Int32} {h' : jx_H} (hd : decode (jm_b i) pc = .ok (.iastore, 1)) (ha : h.1[a]? = some (.inl (1, n))) (hj : jx_ok j n) (hh : jx_wI h a j.toNatClampNeg x = h') (k : jx_Ev d bc bs i (pc + 1) lv st h' Q) : jx_Ev d bc bs i pc lv (.int x :: .int j :: .ref a :: st) h Q := by
  subst hh
  intro p l e R s m args below meth c G H locs cells slots ls Z F r hl ho hcs hr
  have hcell := r.2.2.2.2.2 a _ ha
  simp [jx_cell] at hcell
  have hpos := jx_ad_pos r ha (fun n => by simp)
  refine W.iast F.1.1 F.1.2.1 hcell ((F.2.1.2.2.2.1 (1, .int) (by simp [jx_prims])).1 n _) (fun q => by cases q) (by rw [arrV_size]; exact hj) rfl rfl hd fun H1 e1 z oq => ?_
  refine k p l e R s m args below meth c G H1 _ cells slots ls Z F (r.put ha (fun n => by simp) z oq rfl (fun b hb => ⟨jx_row_ne _ _ hb, rfl, rfl⟩) ?_) hl (jx_ho ho hpos.2) hcs hr
  simp [jx_cell]
  rw [e1, arrV_store]
  congr 2
  funext q
  by_cases hq : q = j.toNatClampNeg
  · simp [updV, jx_wI, jx_row, jx_up, hq]
  · simp [updV, jx_wI, jx_row, jx_up, hq]
theorem je_last {a n : Nat} {j : Int32} {x : Int64} {h' : jx_H} (hd : decode (jm_b i) pc = .ok (.lastore, 1)) (ha : h.1[a]? = some (.inl (2, n))) (hj : jx_ok j n) (hh : jx_wL h a j.toNatClampNeg x = h') (k : jx_Ev d bc bs i (pc + 1) lv st h' Q) : jx_Ev d bc bs i pc lv (.long x :: .int j :: .ref a :: st) h Q := by
  subst hh
  intro p l e R s m args below meth c G H locs cells slots ls Z F r hl ho hcs hr
  have hcell := r.2.2.2.2.2 a _ ha
  simp [jx_cell] at hcell
  have hpos := jx_ad_pos r ha (fun n => by simp)
  refine W.last F.1.1 F.1.2.1 hcell ((F.2.1.2.2.2.1 (2, .long) (by simp [jx_prims])).1 n _) (fun q => by cases q) (by rw [arrV_size]; exact hj) rfl rfl hd fun H1 e1 z oq => ?_
  refine k p l e R s m args below meth c G H1 _ cells slots ls Z F (r.put ha (fun n => by simp) z oq rfl (fun b hb => ⟨rfl, jx_row_ne _ _ hb, rfl⟩) ?_) hl (jx_ho ho hpos.2) hcs hr
  simp [jx_cell]
  rw [e1, arrV_store]
  congr 2
  funext q
  by_cases hq : q = j.toNatClampNeg
  · simp [updV, jx_wL, jx_row, jx_up, hq]
  · simp [updV, jx_wL, jx_row, jx_up, hq]
theorem je_bast {a n : Nat} {j x : Int32} {h' : jx_H} (hd : decode (jm_b i) pc = .ok (.bastore, 1)) (ha : h.1[a]? = some (.inl (3, n))) (hj : jx_ok j n) (hh : jx_wI h a j.toNatClampNeg x.toInt8.toInt32 = h') (k : jx_Ev d bc bs i (pc + 1) lv st h' Q) : jx_Ev d bc bs i pc lv (.int x :: .int j :: .ref a :: st) h Q := by
  subst hh
  intro p l e R s m args below meth c G H locs cells slots ls Z F r hl ho hcs hr
  have hcell := r.2.2.2.2.2 a _ ha
  simp [jx_cell] at hcell
  have hpos := jx_ad_pos r ha (fun n => by simp)
  refine W.bast F.1.1 F.1.2.1 hcell ((F.2.1.2.2.2.1 (3, .byte) (by simp [jx_prims])).1 n _) (fun q => by cases q) (by rw [arrV_size]; exact hj) rfl rfl hd fun H1 e1 z oq => ?_
  refine k p l e R s m args below meth c G H1 _ cells slots ls Z F (r.put ha (fun n => by simp) z oq rfl (fun b hb => ⟨jx_row_ne _ _ hb, rfl, rfl⟩) ?_) hl (jx_ho ho hpos.2) hcs hr
  simp [jx_cell]
  rw [e1, arrV_store]
  congr 2
  funext q
  by_cases hq : q = j.toNatClampNeg
  · simp [updV, jx_wI, jx_row, jx_up, hq, narrow]
  · simp [updV, jx_wI, jx_row, jx_up, hq]
theorem je_zast {a n : Nat} {j x : Int32} {h' : jx_H} (hd : decode (jm_b i) pc = .ok (.bastore, 1)) (ha : h.1[a]? = some (.inl (4, n))) (hj : jx_ok j n) (hx : narrow .boolean (.int x) = .int x) (hh : jx_wI h a j.toNatClampNeg x = h') (k : jx_Ev d bc bs i (pc + 1) lv st h' Q) : jx_Ev d bc bs i pc lv (.int x :: .int j :: .ref a :: st) h Q := by
  subst hh
  intro p l e R s m args below meth c G H locs cells slots ls Z F r hl ho hcs hr
  have hcell := r.2.2.2.2.2 a _ ha
  simp [jx_cell] at hcell
  have hpos := jx_ad_pos r ha (fun n => by simp)
  refine W.zast F.1.1 F.1.2.1 hcell ((F.2.1.2.2.2.1 (4, .boolean) (by simp [jx_prims])).1 n _) (fun q => by cases q) (by rw [arrV_size]; exact hj) rfl rfl hd fun H1 e1 z oq => ?_
  refine k p l e R s m args below meth c G H1 _ cells slots ls Z F (r.put ha (fun n => by simp) z oq rfl (fun b hb => ⟨jx_row_ne _ _ hb, rfl, rfl⟩) ?_) hl (jx_ho ho hpos.2) hcs hr
  simp [jx_cell]
  rw [hx] at e1
  rw [e1, arrV_store]
  congr 2
  funext q
  by_cases hq : q = j.toNatClampNeg
  · simp [updV, jx_wI, jx_row, jx_up, hq]
  · simp [updV, jx_wI, jx_row, jx_up, hq]
end JH
