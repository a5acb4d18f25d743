/-! Rules of jx_Ev: new cells, copies, Math, calls, ends; contracts. -/
theorem jn_nofl : ∀ c, c < 13 → ∀ k, k < jn_N c → jn_ty c k ≠ .float ∧ jn_ty c k ≠ .double := by decide +kernel
section JC
variable {d bc bs i pc : Nat} {lv : List (Option Value)} {st : List Value} {h : jx_H} {Q : Option Value → jx_H → Prop}
theorem jx_ad_new {G : jx_G} {H : Heap} (r : jx_Rel G h H) : jx_ad G h.1.length = H.size := by
  obtain ⟨-, -, ⟨r1, r2, r3⟩, -⟩ := r
  unfold jx_ad
  rw [if_neg (by omega), if_pos r2]
  omega
theorem je_new {x c0 n : Nat} {h' : jx_H} (hd : decode (jm_b i) pc = .ok (.new x, 3)) (hc : jx_C (jm_o i) x c0) (hn : jn_N c0 = n) (hlen : h.1.length + 1 < 1000000) (hh : jx_new h (.inr (.inl c0)) = h') (k : jx_Ev d bc bs i (pc + 3) lv (.ref h.1.length :: st) h' Q) : jx_Ev d (bc + 1) (bs + n) i pc lv st h Q := by
  subst hh
  subst hn
  intro p l e R s m args below meth c G H locs cells slots ls Z F r hl ho hcs hr
  obtain ⟨⟨hx, hb, hml⟩, ⟨hown, hts, hK⟩, -, -⟩ := id F
  obtain ⟨⟨h1, h2, h3⟩, hc13⟩ := hc
  have hKn := hK.1.1 c0 _ (jn_cl_at c0 hc13)
  refine W.newcK hx hb hown (hts _ h1) (hts _ h2) (hts _ h3) rfl hd (by omega) (by omega) hKn.2.1 rfl fun H1 kC hkC e1 z1 o1 => ?_
  have hk := k p l e R s m args below meth c G H1 locs (cells + 1) (slots + jn_N c0) ls Z F (r.push (fun n => by simp) hlen z1 o1 ?_) hl ho ⟨by omega, by omega⟩ hr
  · have e2 : (Value.ref h.1.length :: st).map (jx_cv G) = .ref H.size :: st.map (jx_cv G) := by
      show Value.ref (jx_ad G h.1.length) :: _ = _
      rw [jx_ad_new r]
    rw [e2] at hk
    exact hk
  · simp only [jx_cell]
    rw [jx_ad_new r]
    refine (u_born (jn_ty c0) hts (jn_lay c0 hc13) hKn hkC e1 (jn_tyok c0 hc13)).to (fun j hj => ?_)
    simp only [jx_new, jx_row_self]
    have hfl := jn_nofl c0 hc13 j hj
    cases hty : jn_ty c0 j <;> first | rfl | exact absurd hty hfl.1 | exact absurd hty hfl.2
theorem je_newa {n : Int32} {t N : Nat} {at0 : ArrayType} {h' : jx_H} (hd : decode (jm_b i) pc = .ok (.newarray at0, 2)) (hw : Cond.arrayClass (newarray.typeOf at0) ∈ jx_T) (hp : (t, newarray.typeOf at0) ∈ jx_prims) (hn : ¬ n < 0) (hN : n.toNatClampNeg = N) (hN2 : N ≤ 60000000) (hlen : h.1.length + 1 < 1000000) (hh : jx_new h (.inl (t, N)) = h') (k : jx_Ev d bc bs i (pc + 2) lv (.ref h.1.length :: st) h' Q) : jx_Ev d (bc + 1) (bs + N) i pc lv (.int n :: st) h Q := by
  subst hh
  subst hN
  intro p l e R s m args below meth c G H locs cells slots ls Z F r hl ho hcs hr
  obtain ⟨⟨hx, hb, hml⟩, ⟨hown, hts, hK⟩, -, -⟩ := id F
  have ht : t = 1 ∧ newarray.typeOf at0 = .int ∨ t = 2 ∧ newarray.typeOf at0 = .long ∨ t = 3 ∧ newarray.typeOf at0 = .byte ∨ t = 4 ∧ newarray.typeOf at0 = .boolean := by
    simpa [jx_prims] using hp
  have hbytes : n.toNatClampNeg * componentBytes (newarray.typeOf at0) ≤ 536870912 := by
    have hcb : componentBytes (newarray.typeOf at0) ≤ 8 := by rcases ht with ⟨-, e⟩ | ⟨-, e⟩ | ⟨-, e⟩ | ⟨-, e⟩ <;> rw [e] <;> decide
    exact Nat.le_trans (Nat.mul_le_mul_left _ hcb) (by omega)
  refine va_newaK hx hb (hts _ hw) rfl hd rfl hn rfl hbytes (by omega) (by omega) rfl fun H1 cA e1 z1 o1 hAr hNm => ?_
  have hcA : cA = jg_a G t := Option.some.inj (hNm.symm.trans (hK.2.1 _ hp).2)
  subst hcA
  have hk := k p l e R s m args below meth c G H1 locs (cells + 1) (slots + n.toNatClampNeg) ls Z F (r.push (fun n => by rcases ht with ⟨rfl, -⟩ | ⟨rfl, -⟩ | ⟨rfl, -⟩ | ⟨rfl, -⟩ <;> simp) hlen z1 o1 ?_) hl ho ⟨by omega, by omega⟩ hr
  · have e2 : (Value.ref h.1.length :: st).map (jx_cv G) = .ref H.size :: st.map (jx_cv G) := by
      show Value.ref (jx_ad G h.1.length) :: _ = _
      rw [jx_ad_new r]
    rw [e2] at hk
    exact hk
  · rcases ht with ⟨rfl, e⟩ | ⟨rfl, e⟩ | ⟨rfl, e⟩ | ⟨rfl, e⟩ <;> (rw [e] at e1; simp [jx_cell]; rw [jx_ad_new r, e1]; simp [jx_new, jx_row_self, defaultValue])
theorem je_anew {x c0 : Nat} {n : Int32} {N : Nat} {h' : jx_H} (hd : decode (jm_b i) pc = .ok (.anewarray x, 3)) (hc : jx_Ca (jm_o i) x c0) (hc0 : c0 ∈ jx_rcs) (hn : ¬ n < 0) (hN : n.toNatClampNeg = N) (hN2 : N ≤ 60000000) (hlen : h.1.length + 1 < 1000000) (hh : jx_new h (.inr (.inr (c0, N))) = h') (k : jx_Ev d bc bs i (pc + 3) lv (.ref h.1.length :: st) h' Q) : jx_Ev d (bc + 1) (bs + N) i pc lv (.int n :: st) h Q := by
  subst hh
  subst hN
  intro p l e R s m args below meth c G H locs cells slots ls Z F r hl ho hcs hr
  obtain ⟨⟨hx, hb, hml⟩, ⟨hown, hts, hK⟩, -, -⟩ := id F
  obtain ⟨hAr, hRA, hAO⟩ := hK.2.2.1 c0 hc0
  refine W.anew hx hb hown (hts _ hc) (va_AO.use hAO) rfl hd rfl hn (by omega) (by omega) (by omega) fun cA kA comp f1 f2 f3 f4 => ?_
  obtain ⟨kA', comp', g1, g2, g3, g4⟩ := hRA
  have hcA : cA = jg_a G (40 + c0) := Option.some.inj (f1.symm.trans g4)
  generalize hH1 : H.push ({ cls := cA, slots := Array.replicate n.toNatClampNeg .null, vm := .none } : Cell) = H1
  have z1 : H1.size = H.size + 1 := by rw [← hH1, Array.size_push]
  have e1 : H1[H.size]? = some (arrV cA n.toNatClampNeg (fun _ => .null)) := by rw [← hH1, Array.getElem?_push_size, ← arrV_new]
  have o1 : ∀ q : Nat, q < H.size → H1[q]? = H[q]? := fun q hq => by rw [← hH1, Array.getElem?_push, if_neg (Nat.ne_of_lt hq)]
  have hk := k p l e R s m args below meth c G H1 locs (cells + 1) (slots + n.toNatClampNeg) ls Z F (r.push (fun n => by simp) hlen z1 o1 ?_) hl ho ⟨by omega, by omega⟩ hr
  · have e2 : (Value.ref h.1.length :: st).map (jx_cv G) = .ref H.size :: st.map (jx_cv G) := by
      show Value.ref (jx_ad G h.1.length) :: _ = _
      rw [jx_ad_new r]
    rw [e2] at hk
    exact hk
  · simp [jx_cell]
    rw [jx_ad_new r, e1, hcA]
    simp [jx_new, jx_row_self, jx_rf]
theorem je_aast {a n c0 v : Nat} {j : Int32} {h' : jx_H} (hd : decode (jm_b i) pc = .ok (.aastore, 1)) (hc0 : c0 ∈ jx_rcs) (ha : h.1[a]? = some (.inr (.inr (c0, n)))) (hv : h.1[v]? = some (.inr (.inl c0))) (hj : jx_ok j n) (hh : jx_wR h a j.toNatClampNeg (some v) = h') (k : jx_Ev d bc bs i (pc + 1) lv st h' Q) : jx_Ev d bc bs i pc lv (.ref v :: .int j :: .ref a :: st) h Q := by
  subst hh
  intro p l e R s m args below meth c G H locs cells slots ls Z F r hl ho hcs hr
  obtain ⟨⟨hx, hb, hml⟩, ⟨hown, hts, hK⟩, -, -⟩ := id F
  obtain ⟨hAr, ⟨kA, comp, g1, g2, g3, g4⟩, hAO⟩ := hK.2.2.1 c0 hc0
  have hc13 : c0 < 13 := by simp [jx_rcs] at hc0; omega
  obtain ⟨hS, hfc, kC, hkC, hkind⟩ := hK.1.1 c0 _ (jn_cl_at c0 hc13)
  have hcell := r.2.2.2.2.2 a _ ha
  simp [jx_cell] at hcell
  have hcv := r.2.2.2.2.2 v _ hv
  simp only [jx_cell] at hcv
  obtain ⟨cv, q1, q2, q3, q4⟩ := hcv
  have hcomp : comp = (jg_D G).1 c0 := Option.some.inj (g3.symm.trans hfc)
  have hlt : j.toNatClampNeg < n := Nat.not_le.mp fun q => hj (Or.inr q)
  have hpos := jx_ad_pos r ha (fun n => by simp)
  refine W.aast (t := .object (jn_R c0)) hx hb hcell (fun q h => by cases h) (fun h => by cases h) g1 g2 rfl (by rw [hcomp]; exact hkC) ⟨fun q => hj (Or.inl q), by rw [arrV_size]; exact hlt⟩ q1 (fun q h => by rw [q3] at h; cases h) (by rw [q2]; exact hkC) (by rw [q2, hcomp]; exact va_assign ⟨hfc, kC, hkC, hkind⟩) rfl rfl hd fun H1 e1 z oq => ?_
  refine k p l e R s m args below meth c G H1 _ cells slots ls Z F (r.put ha (fun n => by simp) z oq rfl (fun b hb => ⟨rfl, rfl, jx_row_ne _ _ hb⟩) ?_) hl (jx_ho ho hpos.2) hcs hr
  simp [jx_cell]
  rw [e1, arrV_store]
  congr 2
  funext q
  by_cases hq : q = j.toNatClampNeg
  · simp [updV, jx_wR, jx_row, jx_up, hq, jx_rf]
  · simp [updV, jx_wR, jx_row, jx_up, hq]
theorem je_objInit {x a : Nat} (hd : decode (jm_b i) pc = .ok (.invokespecial x, 3)) (hk : jx_Lo (jm_o i) x) (hs : (st.map fun v => v.category).sum ≤ 8) (k : jx_Ev (d + 1) bc bs i (pc + 3) lv st h Q) : jx_Ev (d + 1) bc bs i pc lv (.ref a :: st) h Q :=
  je_gen (fun {p l e R s m args below meth c H locs cells slots Z G ls} F r hl _ k => by
    refine W.objInit F.1.1 F.1.2.1 F.2.1.1 (F.2.1.2.1 _ hk) (F.2.1.2.1 _ jw_obj.1) (F.2.1.2.1 _ jw_obj.2) rfl (by show ls.size = c.maxLocals; rw [F.1.2.2]; exact hl.2.1) (rest := st.map (jx_cv G)) rfl hd (Nat.le_trans (by omega) F.2.2.1.1) ?_ k
    have h1 := F.2.2.1.2
    show 2 * 0 + _ + 12 ≤ R.locals
    rw [jx_cv_sum]
    omega) k
theorem je_mmax {x : Nat} {u v : Int32} (hd : decode (jm_b i) pc = .ok (.invokestatic x, 3)) (hk : jx_Lm (jm_o i) x Lib.Math.max.name) (hs : (st.map fun v => v.category).sum ≤ 8) (k : jx_Ev (d + 1) bc bs i (pc + 3) lv (.int (if u < v then v else u) :: st) h Q) : jx_Ev (d + 1) bc bs i pc lv (.int v :: .int u :: st) h Q :=
  je_gen (fun {p l e R s m args below meth c H locs cells slots Z G ls} F r hl hc k => by
    have h1 := F.2.2.1.2
    exact va_mmax F.1.1 F.1.2.1 (by rw [F.1.2.2]; exact hl.2.1.symm) F.2.1.1 (F.2.1.2.1 _ hk) (F.2.1.2.1 _ jw_max.1) (F.2.1.2.1 _ jw_Math) (F.2.1.2.1 _ jw_max.2) (Nat.le_trans (by omega) F.2.2.1.1) (by rw [jx_cv_sum]; omega) (by omega) (by omega) hd k) k
theorem je_mmin {x : Nat} {u v : Int32} (hd : decode (jm_b i) pc = .ok (.invokestatic x, 3)) (hk : jx_Lm (jm_o i) x Lib.Math.min.name) (hs : (st.map fun v => v.category).sum ≤ 8) (k : jx_Ev (d + 1) bc bs i (pc + 3) lv (.int (if v < u then v else u) :: st) h Q) : jx_Ev (d + 1) bc bs i pc lv (.int v :: .int u :: st) h Q :=
  je_gen (fun {p l e R s m args below meth c H locs cells slots Z G ls} F r hl hc k => by
    have h1 := F.2.2.1.2
    exact va_mmin F.1.1 F.1.2.1 (by rw [F.1.2.2]; exact hl.2.1.symm) F.2.1.1 (F.2.1.2.1 _ hk) (F.2.1.2.1 _ jw_min.1) (F.2.1.2.1 _ jw_Math) (F.2.1.2.1 _ jw_min.2) (Nat.le_trans (by omega) F.2.2.1.1) (by rw [jx_cv_sum]; omega) (by omega) (by omega) hd k) k
theorem je_mabs {x : Nat} {u : Int32} (hd : decode (jm_b i) pc = .ok (.invokestatic x, 3)) (hk : jx_Lm (jm_o i) x Lib.Math.abs.name) (hs : (st.map fun v => v.category).sum ≤ 8) (k : jx_Ev (d + 1) bc bs i (pc + 3) lv (.int (if 0 ≤ u then u else 0 - u) :: st) h Q) : jx_Ev (d + 1) bc bs i pc lv (.int u :: st) h Q :=
  je_gen (fun {p l e R s m args below meth c H locs cells slots Z G ls} F r hl hc k => by
    have h1 := F.2.2.1.2
    exact va_mabs F.1.1 F.1.2.1 (by rw [F.1.2.2]; exact hl.2.1.symm) F.2.1.1 (F.2.1.2.1 _ hk) (F.2.1.2.1 _ jw_abs.1) (F.2.1.2.1 _ jw_Math) (F.2.1.2.1 _ jw_abs.2) (Nat.le_trans (by omega) F.2.2.1.1) (by rw [jx_cv_sum]; omega) (by omega) (by omega) hd k) k
theorem je_mmaxl {x : Nat} {u v : Int64} (hd : decode (jm_b i) pc = .ok (.invokestatic x, 3)) (hk : jx_Lm (jm_o i) x Lib.MathLoose.max_long.x) (hs : (st.map fun v => v.category).sum ≤ 8) (k : jx_Ev (d + 1) bc bs i (pc + 3) lv (.long (if v < u then u else v) :: st) h Q) : jx_Ev (d + 1) bc bs i pc lv (.long v :: .long u :: st) h Q :=
  je_gen (fun {p l e R s m args below meth c H locs cells slots Z G ls} F r hl hc k => by
    have h1 := F.2.2.1.2
    exact va_mmax_long F.1.1 F.1.2.1 (by rw [F.1.2.2]; exact hl.2.1.symm) F.2.1.1 (F.2.1.2.1 _ hk) (F.2.1.2.1 _ jw_max_long.1) (F.2.1.2.1 _ jw_Math) (F.2.1.2.1 _ jw_max_long.2) (Nat.le_trans (by omega) F.2.2.1.1) (by rw [jx_cv_sum]; omega) (by omega) (by omega) hd k) k
theorem je_mminl {x : Nat} {u v : Int64} (hd : decode (jm_b i) pc = .ok (.invokestatic x, 3)) (hk : jx_Lm (jm_o i) x Lib.MathLoose.min_long.x) (hs : (st.map fun v => v.category).sum ≤ 8) (k : jx_Ev (d + 1) bc bs i (pc + 3) lv (.long (if v < u then v else u) :: st) h Q) : jx_Ev (d + 1) bc bs i pc lv (.long v :: .long u :: st) h Q :=
  je_gen (fun {p l e R s m args below meth c H locs cells slots Z G ls} F r hl hc k => by
    have h1 := F.2.2.1.2
    exact va_mmin_long F.1.1 F.1.2.1 (by rw [F.1.2.2]; exact hl.2.1.symm) F.2.1.1 (F.2.1.2.1 _ hk) (F.2.1.2.1 _ jw_min_long.1) (F.2.1.2.1 _ jw_Math) (F.2.1.2.1 _ jw_min_long.2) (Nat.le_trans (by omega) F.2.2.1.1) (by rw [jx_cv_sum]; omega) (by omega) (by omega) hd k) k
end JC
