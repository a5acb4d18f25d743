/-! images: rows carried -/
set_option maxHeartbeats 2000000 in
theorem t_Mo_carryRow (d : Nat) {bc bs : Nat} {h : jx_H} {a n q : Nat} (H : jx_St h) (Bk : h.1[a]? = some (.inl (1, n))) (hn : n ≤ 800) (ha : a ≠ 302 ∧ a ≠ 253) (hb : h.2.1 253 67 = 0) (hq : h.2.1 253 66 = nI q) (hq8 : q + n ≤ 5500) : jx_Tr (d + 1) bc bs 12080 [.ref 253, .ref a] h (fun r h' => r = none ∧ fC (fun b => b = 302 ∨ b = 253) h h' ∧ (∀ j, j ≠ 66 → h'.2.1 253 j = h.2.1 253 j) ∧ h'.2.1 253 66 = nI (q + n) ∧ (∀ j, j < n → h'.2.1 302 (q + j) = h.2.1 a j) ∧ ∀ i, i < q ∨ q + n ≤ i → h'.2.1 302 i = h.2.1 302 i) := by
  refine jx_tr jM_Mo_carryRow rfl rfl (lv := [some (.ref 253), some (.ref a), none]) rfl ?_
  refine je_iconst (pc := 0) (v := 0) d12080_0 rfl ?_
  refine ju_istore2 (pc := 1) (lv' := [some _, some _, some _]) d12080_1 rfl rfl ?_
  refine je_loop (σ := Unit) (n) (fun k xx => [some (.ref 253), some (.ref a), some (.int (nI k))]) (fun k _ h' => fC (fun b => b = 302 ∨ b = 253) h h' ∧ (∀ j, j ≠ 66 → h'.2.1 253 j = h.2.1 253 j) ∧ h'.2.1 253 66 = nI (q + k) ∧ (∀ j, j < k → h'.2.1 302 (q + j) = h.2.1 a j) ∧ ∀ i, i < q ∨ q + k ≤ i → h'.2.1 302 i = h.2.1 302 i) (fun k xx h' hk e kk => ?_) (fun xx h' e => ?_) (0) () h (by omega) ⟨fC.rf, fun _ _ => rfl, hq, fun j hj => absurd hj (Nat.not_lt_zero j), fun _ _ => rfl⟩
  · obtain ⟨e1, e2, e3, e4, e5⟩ := e
    have H1 := e1.St H
    have Bk1 : h'.1[a]? = some (.inl (1, n)) := by rw [e1.1.1]; exact Bk
    refine je_iload2 (pc := 2) d12080_2 rfl ?_
    refine je_aload1 (pc := 3) d12080_3 rfl ?_
    refine je_alen (pc := 4) d12080_4 Bk1 (by decide) ?_
    refine ju_icge (pc := 5) 58 d12080_5 (by decide) (fun c5 => absurd c5 (fun z => z (nI_lt hk (by omega)))) (fun c5 => ?_)
    refine je_aload0 (pc := 8) d12080_8 rfl ?_
    refine ju_geti (pc := 9) d12080_9 jF_12_564 rfl (sK253 H1) ?_
    refine je_ifeq (pc := 12) 30 d12080_12 (by decide) (fun c12 => ?_) (fun c12 => absurd c12 (fun z => z ((e2 67 (by decide)).trans hb)))
    refine je_aload0 (pc := 30) d12080_30 rfl ?_
    refine ju_getr (pc := 31) (b := 302) d12080_31 jF_12_160 rfl (sK253 H1) (sR253_64 H1) ?_
    refine je_aload0 (pc := 34) d12080_34 rfl ?_
    refine ju_geti (pc := 35) d12080_35 jF_12_567 rfl (sK253 H1) ?_
    refine ju_eqi (v := nI (q + k)) e3 ?_
    refine je_aload1 (pc := 38) d12080_38 rfl ?_
    refine je_iload2 (pc := 39) d12080_39 rfl ?_
    refine ju_iald (pc := 40) (jn := (k)) d12080_40 Bk1 (vp_in_nI hk (by omega)) (nI_clamp (by omega)) ?_
    refine ju_iast (pc := 41) (jn := (q + k)) d12080_41 (sK302 H1) (vp_in_nI (by omega) (by decide)) (nI_clamp (by omega)) ?_
    refine je_aload0 (pc := 42) d12080_42 rfl ?_
    refine je_dup (pc := 43) d12080_43 rfl ?_
    refine ju_geti (pc := 44) d12080_44 jF_12_567 rfl (sK253 H1.wI) ?_
    refine ju_eqi (v := nI (q + k)) (by rw [wI_ne _ _ _ (by decide)]; exact e3) ?_
    refine je_iconst (pc := 47) (v := 1) d12080_47 rfl ?_
    refine je_iadd (pc := 48) d12080_48 ?_
    refine ju_eqi (v := nI (q + k + 1)) (nI_1 _) ?_
    refine ju_puti (pc := 49) d12080_49 jF_12_567 rfl (sK253 H1.wI) ?_
    refine ju_inc (pc := 52) (y := 1) (lv' := [some _, some _, some _]) d12080_52 rfl rfl rfl ?_
    refine je_goto (pc := 55) 2 d12080_55 (by decide) ?_
    rw [nI_1 k]
    refine kk () _ ⟨(e1.wI (Or.inl rfl)).wI (Or.inr rfl), fun j hj => ?_, ?_, fun j hj => ?_, fun i hi => ?_⟩
    · rw [wI_at, jx_up_ne _ _ hj, wI_ne _ _ _ (by decide)]; exact e2 j hj
    · rw [wI_at, jx_up_self, Nat.add_assoc]
    · rw [wI_ne _ _ _ (by decide), wI_at]
      by_cases c : j = k
      · rw [c, jx_up_self, e1.2 a (by omega)]
      · rw [jx_up_ne _ _ (by omega)]; exact e4 j (by omega)
    · rw [wI_ne _ _ _ (by decide), wI_at, jx_up_ne _ _ (by omega)]; exact e5 i (by omega)
  · obtain ⟨e1, e2, e3, e4, e5⟩ := e
    have H1 := e1.St H
    have Bk1 : h'.1[a]? = some (.inl (1, n)) := by rw [e1.1.1]; exact Bk
    refine je_iload2 (pc := 2) d12080_2 rfl ?_
    refine je_aload1 (pc := 3) d12080_3 rfl ?_
    refine je_alen (pc := 4) d12080_4 Bk1 (by decide) ?_
    refine ju_icge (pc := 5) 58 d12080_5 (by decide) (fun c5 => ?_) (fun c5 => absurd c5 (nI_nlt (Nat.le_refl n) (by omega)))
    refine je_ret (pc := 58) d12080_58 rfl ?_
    exact ⟨rfl, e1, e2, e3, e4, e5⟩
set_option maxHeartbeats 2000000 in
theorem t_Mo_carryRow_b (d : Nat) {bc bs : Nat} {h : jx_H} {a n q : Nat} (H : jx_St h) (Bk : h.1[a]? = some (.inl (1, n))) (hn : n ≤ 800) (ha : a ≠ 302 ∧ a ≠ 253) (hb : h.2.1 253 67 = 1) (hq : h.2.1 253 66 = nI q) (hq8 : q + n ≤ 5500) : jx_Tr (d + 1) bc bs 12080 [.ref 253, .ref a] h (fun r h' => r = none ∧ fC (fun b => b = a ∨ b = 253) h h' ∧ (∀ j, j ≠ 66 → h'.2.1 253 j = h.2.1 253 j) ∧ h'.2.1 253 66 = nI (q + n) ∧ ∀ j, j < n → h'.2.1 a j = h.2.1 302 (q + j)) := by
  refine jx_tr jM_Mo_carryRow rfl rfl (lv := [some (.ref 253), some (.ref a), none]) rfl ?_
  refine je_iconst (pc := 0) (v := 0) d12080_0 rfl ?_
  refine ju_istore2 (pc := 1) (lv' := [some _, some _, some _]) d12080_1 rfl rfl ?_
  refine je_loop (σ := Unit) (n) (fun k xx => [some (.ref 253), some (.ref a), some (.int (nI k))]) (fun k _ h' => fC (fun b => b = a ∨ b = 253) h h' ∧ (∀ j, j ≠ 66 → h'.2.1 253 j = h.2.1 253 j) ∧ h'.2.1 253 66 = nI (q + k) ∧ ∀ j, j < k → h'.2.1 a j = h.2.1 302 (q + j)) (fun k xx h' hk e kk => ?_) (fun xx h' e => ?_) (0) () h (by omega) ⟨fC.rf, fun _ _ => rfl, hq, fun j hj => absurd hj (Nat.not_lt_zero j)⟩
  · obtain ⟨e1, e2, e3, e4⟩ := e
    have H1 := e1.St H
    have Bk1 : h'.1[a]? = some (.inl (1, n)) := by rw [e1.1.1]; exact Bk
    refine je_iload2 (pc := 2) d12080_2 rfl ?_
    refine je_aload1 (pc := 3) d12080_3 rfl ?_
    refine je_alen (pc := 4) d12080_4 Bk1 (by decide) ?_
    refine ju_icge (pc := 5) 58 d12080_5 (by decide) (fun c5 => absurd c5 (fun z => z (nI_lt hk (by omega)))) (fun c5 => ?_)
    refine je_aload0 (pc := 8) d12080_8 rfl ?_
    refine ju_geti (pc := 9) d12080_9 jF_12_564 rfl (sK253 H1) ?_
    refine je_ifeq (pc := 12) 30 d12080_12 (by decide) (fun c12 => absurd c12 (by rw [e2 67 (by decide), hb]; decide)) (fun c12 => ?_)
    refine je_aload1 (pc := 15) d12080_15 rfl ?_
    refine je_iload2 (pc := 16) d12080_16 rfl ?_
    refine je_aload0 (pc := 17) d12080_17 rfl ?_
    refine ju_getr (pc := 18) (b := 302) d12080_18 jF_12_160 rfl (sK253 H1) (sR253_64 H1) ?_
    refine je_aload0 (pc := 21) d12080_21 rfl ?_
    refine ju_geti (pc := 22) d12080_22 jF_12_567 rfl (sK253 H1) ?_
    refine ju_eqi (v := nI (q + k)) e3 ?_
    refine ju_iald (pc := 25) (jn := (q + k)) d12080_25 (sK302 H1) (vp_in_nI (by omega) (by decide)) (nI_clamp (by omega)) ?_
    refine ju_iast (pc := 26) (jn := (k)) d12080_26 Bk1 (vp_in_nI hk (by omega)) (nI_clamp (by omega)) ?_
    refine je_goto (pc := 27) 42 d12080_27 (by decide) ?_
    refine je_aload0 (pc := 42) d12080_42 rfl ?_
    refine je_dup (pc := 43) d12080_43 rfl ?_
    refine ju_geti (pc := 44) d12080_44 jF_12_567 rfl (sK253 H1.wI) ?_
    refine ju_eqi (v := nI (q + k)) (by rw [wI_ne _ _ _ (Ne.symm ha.2)]; exact e3) ?_
    refine je_iconst (pc := 47) (v := 1) d12080_47 rfl ?_
    refine je_iadd (pc := 48) d12080_48 ?_
    refine ju_eqi (v := nI (q + k + 1)) (nI_1 _) ?_
    refine ju_puti (pc := 49) d12080_49 jF_12_567 rfl (sK253 H1.wI) ?_
    refine ju_inc (pc := 52) (y := 1) (lv' := [some _, some _, some _]) d12080_52 rfl rfl rfl ?_
    refine je_goto (pc := 55) 2 d12080_55 (by decide) ?_
    rw [nI_1 k]
    refine kk () _ ⟨(e1.wI (Or.inl rfl)).wI (Or.inr rfl), fun j hj => ?_, ?_, fun j hj => ?_⟩
    · rw [wI_at, jx_up_ne _ _ hj, wI_ne _ _ _ (Ne.symm ha.2)]; exact e2 j hj
    · rw [wI_at, jx_up_self, Nat.add_assoc]
    · rw [wI_ne _ _ _ ha.2, wI_at]
      by_cases c : j = k
      · rw [c, jx_up_self, e1.2 302 (by omega)]
      · rw [jx_up_ne _ _ (by omega)]; exact e4 j (by omega)
  · obtain ⟨e1, e2, e3, e4⟩ := e
    have H1 := e1.St H
    have Bk1 : h'.1[a]? = some (.inl (1, n)) := by rw [e1.1.1]; exact Bk
    refine je_iload2 (pc := 2) d12080_2 rfl ?_
    refine je_aload1 (pc := 3) d12080_3 rfl ?_
    refine je_alen (pc := 4) d12080_4 Bk1 (by decide) ?_
    refine ju_icge (pc := 5) 58 d12080_5 (by decide) (fun c5 => ?_) (fun c5 => absurd c5 (nI_nlt (Nat.le_refl n) (by omega)))
    refine je_ret (pc := 58) d12080_58 rfl ?_
    exact ⟨rfl, e1, e2, e3, e4⟩
def iA : Nat → Nat
  | 0 => 254
  | 1 => 255
  | 2 => 256
  | 3 => 257
  | 4 => 262
  | 5 => 293
  | 6 => 258
  | 7 => 259
  | 8 => 260
  | 9 => 261
  | 10 => 263
  | 11 => 264
  | 12 => 265
  | 13 => 266
  | 14 => 267
  | 15 => 268
  | 16 => 269
  | _ => 292
def iN : Nat → Nat
  | 0 => 9
  | 1 => 10
  | 2 => 10
  | 3 => 10
  | 4 => 8
  | 5 => 1
  | 6 => 100
  | 7 => 8
  | 8 => 8
  | 9 => 8
  | 10 => 8
  | 11 => 8
  | 12 => 10
  | 13 => 10
  | 14 => 10
  | 15 => 10
  | 16 => 1
  | _ => 800
def iO : Nat → Nat
  | 0 => 0
  | 1 => 9
  | 2 => 19
  | 3 => 29
  | 4 => 39
  | 5 => 47
  | 6 => 48
  | 7 => 148
  | 8 => 156
  | 9 => 164
  | 10 => 172
  | 11 => 180
  | 12 => 188
  | 13 => 198
  | 14 => 208
  | 15 => 218
  | 16 => 228
  | 17 => 229
  | _ => 1029
theorem iO_s : ∀ i, i < 18 → iO (i + 1) = iO i + iN i := by decide
theorem iO_m : ∀ i, i < 18 → ∀ t, t < i → iO t + iN t ≤ iO i := by decide
theorem iA_i : ∀ i, i < 18 → ∀ t, t < i → iA t ≠ iA i := by decide
theorem iA_r : ∀ t, t < 18 → 254 ≤ iA t ∧ iA t ≤ 293 ∧ ¬ (270 ≤ iA t ∧ iA t ≤ 291) := by decide
theorem iA_g : ∀ t, t < 18 → gO (iA t) = iO t := by decide
theorem iO_b : ∀ t, t < 18 → iO t + iN t ≤ 1029 := by decide
/-- rows carried into an image, i of them -/
def cyF (h h' : jx_H) (q i : Nat) : Prop := fC (fun b => b = 302 ∨ b = 253 ∨ b = 293) h h' ∧ (∀ j, j ≠ 66 → j ≠ 67 → h'.2.1 253 j = h.2.1 253 j) ∧ h'.2.1 253 67 = 0 ∧ h'.2.1 253 66 = nI (q + iO i) ∧ (∀ t, t < i → ∀ j, j < iN t → h'.2.1 302 (q + iO t + j) = gN h (iA t) j) ∧ ∀ x, x < q ∨ q + iO i ≤ x → h'.2.1 302 x = h.2.1 302 x
theorem cyF.go {h h1 h2 : jx_H} {q i : Nat} (hi : i < 18) (c : cyF h h1 q i) (e1 : fC (fun b => b = 302 ∨ b = 253) h1 h2) (e2 : ∀ j, j ≠ 66 → h2.2.1 253 j = h1.2.1 253 j) (e3 : h2.2.1 253 66 = nI (q + iO i + iN i)) (e4 : ∀ j, j < iN i → h2.2.1 302 (q + iO i + j) = h1.2.1 (iA i) j) (e5 : ∀ x, x < q + iO i ∨ q + iO i + iN i ≤ x → h2.2.1 302 x = h1.2.1 302 x) (ev : ∀ j, j < iN i → h1.2.1 (iA i) j = gN h (iA i) j) : cyF h h2 q (i + 1) := by
  obtain ⟨c1, c2, c3, c4, c5, c6⟩ := c
  have s := iO_s i hi
  refine ⟨c1.tr (e1.mo (fun b hb => by omega)), fun j h1 h2 => (e2 j h1).trans (c2 j h1 h2), (e2 67 (by decide)).trans c3, by rw [e3, s, Nat.add_assoc], fun t ht j hj => ?_, fun x hx => ?_⟩
  · by_cases d : t = i
    · subst d
      rw [e4 j hj, ev j hj]
    · have := iO_m i hi t (by omega)
      rw [e5 _ (by omega)]
      exact c5 t (by omega) j hj
  · rw [e5 x (by omega)]
    exact c6 x (by omega)
/-- rows carried back -/
def cyB (h h' : jx_H) (q i : Nat) : Prop := fC (fun b => b = 253 ∨ ∃ t, t < i ∧ b = iA t) h h' ∧ (∀ j, j ≠ 66 → j ≠ 67 → j ≠ 51 → h'.2.1 253 j = h.2.1 253 j) ∧ h'.2.1 253 67 = 1 ∧ h'.2.1 253 66 = nI (q + iO i) ∧ (∀ t, t < i → ∀ j, j < iN t → gN h' (iA t) j = h.2.1 302 (q + iO t + j)) ∧ (i ≤ 5 → h'.2.1 253 51 = h.2.1 253 51)
theorem cyB.go {h h1 h2 : jx_H} {q i : Nat} (hi : i < 18) (h5 : i ≠ 5) (c : cyB h h1 q i) (e1 : fC (fun b => b = iA i ∨ b = 253) h1 h2) (e2 : ∀ j, j ≠ 66 → h2.2.1 253 j = h1.2.1 253 j) (e3 : h2.2.1 253 66 = nI (q + iO i + iN i)) (e4 : ∀ j, j < iN i → h2.2.1 (iA i) j = h1.2.1 302 (q + iO i + j)) : cyB h h2 q (i + 1) := by
  obtain ⟨c1, c2, c3, c4, c5, c6⟩ := c
  have s := iO_s i hi
  have n5 : iA i ≠ 293 := by
    intro z
    rcases Nat.lt_or_ge i 5 with y | y
    · exact iA_i 5 (by omega) i y z
    · exact iA_i i hi 5 (by omega) z.symm
  refine ⟨⟨⟨e1.1.1.trans c1.1.1, e1.1.2.trans c1.1.2⟩, fun b hb => ?_⟩, fun j h1 h2 h3 => (e2 j h1).trans (c2 j h1 h2 h3), (e2 67 (by decide)).trans c3, by rw [e3, s, Nat.add_assoc], fun t ht j hj => ?_, fun z => (e2 51 (by decide)).trans (c6 (by omega))⟩
  · have h1 : b ≠ 253 := fun z => hb (Or.inl z)
    have h2 : ∀ t, t < i + 1 → b ≠ iA t := fun t ht z => hb (Or.inr ⟨t, ht, z⟩)
    rw [e1.2 b (fun z => z.elim (h2 i (by omega)) h1)]
    exact c1.2 b (fun z => z.elim h1 (fun ⟨t, ht, z⟩ => h2 t (by omega) z))
  · by_cases d : t = i
    · subst d
      rw [gN_ne _ n5, e4 j hj]
      have := iA_r t hi
      rw [c1.2 302 (fun z => z.elim (by omega) (fun ⟨t', ht', z⟩ => by have := iA_r t' (by omega); omega))]
    · have hr := iA_r t (by omega)
      have : gN h2 (iA t) = gN h1 (iA t) := by
        funext x
        unfold gN
        rw [e2 51 (by decide), e1.2 (iA t) (fun z => z.elim (iA_i i hi t (by omega)) (by omega))]
      rw [this]
      exact c5 t (by omega) j hj
theorem cyB.ring {h h1 h2 : jx_H} {q : Nat} {v : Int32} (c : cyB h h1 q 5) (e1 : fC (fun b => b = 293 ∨ b = 253) (jx_wI h1 293 0 v) h2) (e2 : ∀ j, j ≠ 66 → h2.2.1 253 j = (jx_wI h1 293 0 v).2.1 253 j) (e3 : h2.2.1 253 66 = nI (q + 47 + 1)) (e4 : ∀ j, j < 1 → h2.2.1 293 j = (jx_wI h1 293 0 v).2.1 302 (q + 47 + j)) : cyB h (jx_wI h2 253 51 (h2.2.1 293 0)) q 6 := by
  obtain ⟨c1, c2, c3, c4, c5, c6⟩ := c
  have k2 : ∀ j, j ≠ 66 → j ≠ 51 → (jx_wI h2 253 51 (h2.2.1 293 0)).2.1 253 j = h1.2.1 253 j := fun j h1 h2 => by rw [wI_at, jx_up_ne _ _ h2, e2 j h1, wI_ne _ _ _ (by decide)]
  refine ⟨⟨⟨e1.1.1.trans c1.1.1, e1.1.2.trans c1.1.2⟩, fun b hb => ?_⟩, fun j h1 h2 h3 => (k2 j h1 h3).trans (c2 j h1 h2 h3), (k2 67 (by decide) (by decide)).trans c3, ?_, fun t ht j hj => ?_, fun z => by omega⟩
  · have h1 : b ≠ 253 := fun z => hb (Or.inl z)
    have h2 : b ≠ 293 := fun z => hb (Or.inr ⟨5, by omega, z⟩)
    rw [wI_ne _ _ _ h1, e1.2 b (by omega), wI_ne _ _ _ h2]
    exact c1.2 b (fun z => z.elim h1 (fun ⟨t, ht, z⟩ => hb (Or.inr ⟨t, by omega, z⟩)))
  · rw [wI_at, jx_up_ne _ _ (by decide), e3]; rfl
  · by_cases d : t = 5
    · subst d
      rw [show iA 5 = 293 from rfl, gN_293, wI_at, jx_up_self, e4 0 (by decide), wI_ne _ _ _ (by decide), c1.2 302 (fun z => z.elim (by omega) (fun ⟨t', ht', z⟩ => by have := iA_r t' (by omega); omega))]
      have : j = 0 := by have h9 : j < 1 := hj; omega
      subst this
      rfl
    · have n5 : iA t ≠ 293 := fun z => iA_i 5 (by omega) t (by omega) z
      have hr := iA_r t (by omega)
      rw [gN_ne _ n5, wI_ne _ _ _ (by omega), e1.2 (iA t) (by omega), wI_ne _ _ _ n5]
      have := c5 t (by omega) j hj
      rw [gN_ne _ n5] at this
      exact this
theorem cyF.rg {h h1 : jx_H} {q i : Nat} {v : Int32} (c : cyF h h1 q i) : cyF h (jx_wI h1 293 0 v) q i := by
  obtain ⟨c1, c2, c3, c4, c5, c6⟩ := c
  refine ⟨c1.wI (by omega), ?_, ?_, ?_, ?_, ?_⟩
  · rw [wI_ne _ _ _ (by decide)]; exact c2
  · rw [wI_ne _ _ _ (by decide)]; exact c3
  · rw [wI_ne _ _ _ (by decide)]; exact c4
  · rw [wI_ne _ _ _ (by decide)]; exact c5
  · rw [wI_ne _ _ _ (by decide)]; exact c6
set_option maxHeartbeats 2000000 in
theorem t_Mo_carriesAll (d : Nat) {bc bs : Nat} {h : jx_H} {k q : Nat} (H : jx_St h) (hk : k < 4) (hqk : q = 1100 * k) : jx_Tr (d + 2) bc bs 12079 [.ref 253, .int (nI k), .int 0] h (fun r h' => r = none ∧ cyF h h' q 18) := by
  refine jx_tr jM_Mo_carriesAll rfl rfl (lv := [some (.ref 253), some (.int (nI k)), some (.int 0)]) rfl ?_
  refine je_aload0 (pc := 0) d12079_0 rfl ?_
  refine je_sipush (pc := 1) (v := 1100) d12079_1 rfl ?_
  refine je_iload1 (pc := 4) d12079_4 rfl ?_
  refine je_imul (pc := 5) d12079_5 ?_
  refine ju_eqi (v := nI (1100 * k)) (pk_mul 1100 k) ?_
  refine ju_puti (pc := 6) d12079_6 jF_12_567 rfl (sK253 H) ?_
  refine je_aload0 (pc := 9) d12079_9 rfl ?_
  refine je_iload2 (pc := 10) d12079_10 rfl ?_
  refine ju_putz (pc := 11) d12079_11 jF_12_564 rfl (by decide) (sK253 H.wI) ?_
  have C0 : cyF h (jx_wI (jx_wI h 253 66 (nI (1100 * k))) 253 67 0) q 0 := by
    refine ⟨(fC.rf.wI (by omega)).wI (by omega), fun j h1 h2 => ?_, ?_, ?_, fun t ht => absurd ht (Nat.not_lt_zero t), fun x hx => ?_⟩
    · rw [wI_at, jx_up_ne _ _ h2, wI_at, jx_up_ne _ _ h1]
    · rw [wI_at, jx_up_self]
    · rw [wI_at, jx_up_ne _ _ (by decide), wI_at, jx_up_self, hqk]; rfl
    · rw [wI_ne _ _ _ (by decide), wI_ne _ _ _ (by decide)]
  refine je_aload0 (pc := 14) d12079_14 rfl ?_
  refine je_aload0 (pc := 15) d12079_15 rfl ?_
  refine ju_getr (pc := 16) (b := 254) d12079_16 jF_12_9 rfl (sK253 H.wI.wI) (sR253_1 H.wI.wI) ?_
  refine ju_callv (pc := 19) (as := [_]) d12079_19 jL_12_570 jM_Mo_carryRow rfl (by decide) (sK253 H.wI.wI) rfl (by exact Nat.le_of_ble_eq_true rfl) (t_Mo_carryRow d (q := q + 0) H.wI.wI (sK254 H.wI.wI) (by decide) (by decide) C0.2.2.1 C0.2.2.2.1 (by omega)) (fun r19 h19 q19 => ?_)
  obtain ⟨rfl, a1, a2, a3, a4, a5⟩ := q19
  have C1 := cyF.go (i := 0) (by decide) C0 a1 a2 a3 a4 a5 (fun j hj => by rw [gN_ne _ (by decide)]; exact congrFun (C0.1.2 254 (by decide)) j)
  have S1 := C1.1.St H
  refine je_aload0 (pc := 22) d12079_22 rfl ?_
  refine je_aload0 (pc := 23) d12079_23 rfl ?_
  refine ju_getr (pc := 24) (b := 255) d12079_24 jF_12_13 rfl (sK253 S1) (sR253_2 S1) ?_
  refine ju_callv (pc := 27) (as := [_]) d12079_27 jL_12_570 jM_Mo_carryRow rfl (by decide) (sK253 S1) rfl (by exact Nat.le_of_ble_eq_true rfl) (t_Mo_carryRow d (q := q + 9) S1 (sK255 S1) (by decide) (by decide) C1.2.2.1 C1.2.2.2.1 (by omega)) (fun r27 h27 q27 => ?_)
  obtain ⟨rfl, a1, a2, a3, a4, a5⟩ := q27
  have C2 := cyF.go (i := 1) (by decide) C1 a1 a2 a3 a4 a5 (fun j hj => by rw [gN_ne _ (by decide)]; exact congrFun (C1.1.2 255 (by decide)) j)
  have S2 := C2.1.St H
  refine je_aload0 (pc := 30) d12079_30 rfl ?_
  refine je_aload0 (pc := 31) d12079_31 rfl ?_
  refine ju_getr (pc := 32) (b := 256) d12079_32 jF_12_16 rfl (sK253 S2) (sR253_3 S2) ?_
  refine ju_callv (pc := 35) (as := [_]) d12079_35 jL_12_570 jM_Mo_carryRow rfl (by decide) (sK253 S2) rfl (by exact Nat.le_of_ble_eq_true rfl) (t_Mo_carryRow d (q := q + 19) S2 (sK256 S2) (by decide) (by decide) C2.2.2.1 C2.2.2.2.1 (by omega)) (fun r35 h35 q35 => ?_)
  obtain ⟨rfl, a1, a2, a3, a4, a5⟩ := q35
  have C3 := cyF.go (i := 2) (by decide) C2 a1 a2 a3 a4 a5 (fun j hj => by rw [gN_ne _ (by decide)]; exact congrFun (C2.1.2 256 (by decide)) j)
  have S3 := C3.1.St H
  refine je_aload0 (pc := 38) d12079_38 rfl ?_
  refine je_aload0 (pc := 39) d12079_39 rfl ?_
  refine ju_getr (pc := 40) (b := 257) d12079_40 jF_12_19 rfl (sK253 S3) (sR253_4 S3) ?_
  refine ju_callv (pc := 43) (as := [_]) d12079_43 jL_12_570 jM_Mo_carryRow rfl (by decide) (sK253 S3) rfl (by exact Nat.le_of_ble_eq_true rfl) (t_Mo_carryRow d (q := q + 29) S3 (sK257 S3) (by decide) (by decide) C3.2.2.1 C3.2.2.2.1 (by omega)) (fun r43 h43 q43 => ?_)
  obtain ⟨rfl, a1, a2, a3, a4, a5⟩ := q43
  have C4 := cyF.go (i := 3) (by decide) C3 a1 a2 a3 a4 a5 (fun j hj => by rw [gN_ne _ (by decide)]; exact congrFun (C3.1.2 257 (by decide)) j)
  have S4 := C4.1.St H
  refine je_aload0 (pc := 46) d12079_46 rfl ?_
  refine je_aload0 (pc := 47) d12079_47 rfl ?_
  refine ju_getr (pc := 48) (b := 262) d12079_48 jF_12_34 rfl (sK253 S4) (sR253_9 S4) ?_
  refine ju_callv (pc := 51) (as := [_]) d12079_51 jL_12_570 jM_Mo_carryRow rfl (by decide) (sK253 S4) rfl (by exact Nat.le_of_ble_eq_true rfl) (t_Mo_carryRow d (q := q + 39) S4 (sK262 S4) (by decide) (by decide) C4.2.2.1 C4.2.2.2.1 (by omega)) (fun r51 h51 q51 => ?_)
  obtain ⟨rfl, a1, a2, a3, a4, a5⟩ := q51
  have C5 := cyF.go (i := 4) (by decide) C4 a1 a2 a3 a4 a5 (fun j hj => by rw [gN_ne _ (by decide)]; exact congrFun (C4.1.2 262 (by decide)) j)
  have S5 := C5.1.St H
  refine je_iload1 (pc := 54) d12079_54 rfl ?_
  refine je_iconst (pc := 55) (v := 4) d12079_55 rfl ?_
  refine je_icne (pc := 56) 60 d12079_56 (by decide) (fun c56 => ?_) (fun c56 => absurd c56 (fun z => absurd ((nI_eq (b := 4) (by omega) (by omega)).mp z) (by omega)))
  refine je_aload0 (pc := 60) d12079_60 rfl ?_
  refine ju_getr (pc := 61) (b := 293) d12079_61 jF_12_133 rfl (sK253 S5) (sR253_50 S5) ?_
  refine je_iconst (pc := 64) (v := 0) d12079_64 rfl ?_
  refine je_aload0 (pc := 65) d12079_65 rfl ?_
  refine ju_geti (pc := 66) d12079_66 jF_12_361 rfl (sK253 S5) ?_
  refine ju_eqi (v := h.2.1 253 51) (C5.2.1 51 (by decide) (by decide)) ?_
  refine ju_iast (pc := 69) (jn := 0) d12079_69 (sK293 S5) (by first | assumption | exact jx_ok_dec (by decide)) (by decide) ?_
  refine je_aload0 (pc := 70) d12079_70 rfl ?_
  refine je_aload0 (pc := 71) d12079_71 rfl ?_
  refine ju_getr (pc := 72) (b := 293) d12079_72 jF_12_133 rfl (sK253 S5.wI) (sR253_50 S5.wI) ?_
  refine ju_callv (pc := 75) (as := [_]) d12079_75 jL_12_570 jM_Mo_carryRow rfl (by decide) (sK253 S5.wI) rfl (by exact Nat.le_of_ble_eq_true rfl) (t_Mo_carryRow d (q := q + 47) S5.wI (sK293 S5.wI) (by decide) (by decide) C5.rg.2.2.1 C5.rg.2.2.2.1 (by omega)) (fun r75 h75 q75 => ?_)
  obtain ⟨rfl, a1, a2, a3, a4, a5⟩ := q75
  have C6 := cyF.go (i := 5) (by decide) C5.rg a1 a2 a3 a4 a5 (fun j hj => by rw [show j = 0 from Nat.lt_one_iff.mp hj]; show (jx_wI h51 293 0 _).2.1 293 0 = gN h 293 0; rw [wI_at, jx_up_self, gN_293])
  have S6 := C6.1.St H
  have R6 : h75.2.1 253 51 = h75.2.1 293 0 := by rw [C6.2.1 51 (by decide) (by decide), a1.2 293 (by decide), wI_at, jx_up_self]
  refine je_aload0 (pc := 78) d12079_78 rfl ?_
  refine je_aload0 (pc := 79) d12079_79 rfl ?_
  refine ju_getr (pc := 80) (b := 293) d12079_80 jF_12_133 rfl (sK253 S6) (sR253_50 S6) ?_
  refine je_iconst (pc := 83) (v := 0) d12079_83 rfl ?_
  refine ju_iald (pc := 84) (jn := 0) d12079_84 (sK293 S6) (by first | assumption | exact jx_ok_dec (by decide)) (by decide) ?_
  refine ju_puti (pc := 85) d12079_85 jF_12_361 rfl (sK253 S6) ?_
  rw [wI_id R6]
  refine je_aload0 (pc := 88) d12079_88 rfl ?_
  refine je_aload0 (pc := 89) d12079_89 rfl ?_
  refine ju_getr (pc := 90) (b := 258) d12079_90 jF_12_22 rfl (sK253 S6) (sR253_5 S6) ?_
  refine ju_callv (pc := 93) (as := [_]) d12079_93 jL_12_570 jM_Mo_carryRow rfl (by decide) (sK253 S6) rfl (by exact Nat.le_of_ble_eq_true rfl) (t_Mo_carryRow d (q := q + 48) S6 (sK258 S6) (by decide) (by decide) C6.2.2.1 C6.2.2.2.1 (by omega)) (fun r93 h93 q93 => ?_)
  obtain ⟨rfl, a1, a2, a3, a4, a5⟩ := q93
  have C7 := cyF.go (i := 6) (by decide) C6 a1 a2 a3 a4 a5 (fun j hj => by rw [gN_ne _ (by decide)]; exact congrFun (C6.1.2 258 (by decide)) j)
  have S7 := C7.1.St H
  refine je_aload0 (pc := 96) d12079_96 rfl ?_
  refine je_aload0 (pc := 97) d12079_97 rfl ?_
  refine ju_getr (pc := 98) (b := 259) d12079_98 jF_12_25 rfl (sK253 S7) (sR253_6 S7) ?_
  refine ju_callv (pc := 101) (as := [_]) d12079_101 jL_12_570 jM_Mo_carryRow rfl (by decide) (sK253 S7) rfl (by exact Nat.le_of_ble_eq_true rfl) (t_Mo_carryRow d (q := q + 148) S7 (sK259 S7) (by decide) (by decide) C7.2.2.1 C7.2.2.2.1 (by omega)) (fun r101 h101 q101 => ?_)
  obtain ⟨rfl, a1, a2, a3, a4, a5⟩ := q101
  have C8 := cyF.go (i := 7) (by decide) C7 a1 a2 a3 a4 a5 (fun j hj => by rw [gN_ne _ (by decide)]; exact congrFun (C7.1.2 259 (by decide)) j)
  have S8 := C8.1.St H
  refine je_aload0 (pc := 104) d12079_104 rfl ?_
  refine je_aload0 (pc := 105) d12079_105 rfl ?_
  refine ju_getr (pc := 106) (b := 260) d12079_106 jF_12_28 rfl (sK253 S8) (sR253_7 S8) ?_
  refine ju_callv (pc := 109) (as := [_]) d12079_109 jL_12_570 jM_Mo_carryRow rfl (by decide) (sK253 S8) rfl (by exact Nat.le_of_ble_eq_true rfl) (t_Mo_carryRow d (q := q + 156) S8 (sK260 S8) (by decide) (by decide) C8.2.2.1 C8.2.2.2.1 (by omega)) (fun r109 h109 q109 => ?_)
  obtain ⟨rfl, a1, a2, a3, a4, a5⟩ := q109
  have C9 := cyF.go (i := 8) (by decide) C8 a1 a2 a3 a4 a5 (fun j hj => by rw [gN_ne _ (by decide)]; exact congrFun (C8.1.2 260 (by decide)) j)
  have S9 := C9.1.St H
  refine je_aload0 (pc := 112) d12079_112 rfl ?_
  refine je_aload0 (pc := 113) d12079_113 rfl ?_
  refine ju_getr (pc := 114) (b := 261) d12079_114 jF_12_31 rfl (sK253 S9) (sR253_8 S9) ?_
  refine ju_callv (pc := 117) (as := [_]) d12079_117 jL_12_570 jM_Mo_carryRow rfl (by decide) (sK253 S9) rfl (by exact Nat.le_of_ble_eq_true rfl) (t_Mo_carryRow d (q := q + 164) S9 (sK261 S9) (by decide) (by decide) C9.2.2.1 C9.2.2.2.1 (by omega)) (fun r117 h117 q117 => ?_)
  obtain ⟨rfl, a1, a2, a3, a4, a5⟩ := q117
  have C10 := cyF.go (i := 9) (by decide) C9 a1 a2 a3 a4 a5 (fun j hj => by rw [gN_ne _ (by decide)]; exact congrFun (C9.1.2 261 (by decide)) j)
  have S10 := C10.1.St H
  refine je_aload0 (pc := 120) d12079_120 rfl ?_
  refine je_aload0 (pc := 121) d12079_121 rfl ?_
  refine ju_getr (pc := 122) (b := 263) d12079_122 jF_12_37 rfl (sK253 S10) (sR253_10 S10) ?_
  refine ju_callv (pc := 125) (as := [_]) d12079_125 jL_12_570 jM_Mo_carryRow rfl (by decide) (sK253 S10) rfl (by exact Nat.le_of_ble_eq_true rfl) (t_Mo_carryRow d (q := q + 172) S10 (sK263 S10) (by decide) (by decide) C10.2.2.1 C10.2.2.2.1 (by omega)) (fun r125 h125 q125 => ?_)
  obtain ⟨rfl, a1, a2, a3, a4, a5⟩ := q125
  have C11 := cyF.go (i := 10) (by decide) C10 a1 a2 a3 a4 a5 (fun j hj => by rw [gN_ne _ (by decide)]; exact congrFun (C10.1.2 263 (by decide)) j)
  have S11 := C11.1.St H
  refine je_aload0 (pc := 128) d12079_128 rfl ?_
  refine je_aload0 (pc := 129) d12079_129 rfl ?_
  refine ju_getr (pc := 130) (b := 264) d12079_130 jF_12_40 rfl (sK253 S11) (sR253_11 S11) ?_
  refine ju_callv (pc := 133) (as := [_]) d12079_133 jL_12_570 jM_Mo_carryRow rfl (by decide) (sK253 S11) rfl (by exact Nat.le_of_ble_eq_true rfl) (t_Mo_carryRow d (q := q + 180) S11 (sK264 S11) (by decide) (by decide) C11.2.2.1 C11.2.2.2.1 (by omega)) (fun r133 h133 q133 => ?_)
  obtain ⟨rfl, a1, a2, a3, a4, a5⟩ := q133
  have C12 := cyF.go (i := 11) (by decide) C11 a1 a2 a3 a4 a5 (fun j hj => by rw [gN_ne _ (by decide)]; exact congrFun (C11.1.2 264 (by decide)) j)
  have S12 := C12.1.St H
  refine je_aload0 (pc := 136) d12079_136 rfl ?_
  refine je_aload0 (pc := 137) d12079_137 rfl ?_
  refine ju_getr (pc := 138) (b := 265) d12079_138 jF_12_43 rfl (sK253 S12) (sR253_12 S12) ?_
  refine ju_callv (pc := 141) (as := [_]) d12079_141 jL_12_570 jM_Mo_carryRow rfl (by decide) (sK253 S12) rfl (by exact Nat.le_of_ble_eq_true rfl) (t_Mo_carryRow d (q := q + 188) S12 (sK265 S12) (by decide) (by decide) C12.2.2.1 C12.2.2.2.1 (by omega)) (fun r141 h141 q141 => ?_)
  obtain ⟨rfl, a1, a2, a3, a4, a5⟩ := q141
  have C13 := cyF.go (i := 12) (by decide) C12 a1 a2 a3 a4 a5 (fun j hj => by rw [gN_ne _ (by decide)]; exact congrFun (C12.1.2 265 (by decide)) j)
  have S13 := C13.1.St H
  refine je_aload0 (pc := 144) d12079_144 rfl ?_
  refine je_aload0 (pc := 145) d12079_145 rfl ?_
  refine ju_getr (pc := 146) (b := 266) d12079_146 jF_12_46 rfl (sK253 S13) (sR253_13 S13) ?_
  refine ju_callv (pc := 149) (as := [_]) d12079_149 jL_12_570 jM_Mo_carryRow rfl (by decide) (sK253 S13) rfl (by exact Nat.le_of_ble_eq_true rfl) (t_Mo_carryRow d (q := q + 198) S13 (sK266 S13) (by decide) (by decide) C13.2.2.1 C13.2.2.2.1 (by omega)) (fun r149 h149 q149 => ?_)
  obtain ⟨rfl, a1, a2, a3, a4, a5⟩ := q149
  have C14 := cyF.go (i := 13) (by decide) C13 a1 a2 a3 a4 a5 (fun j hj => by rw [gN_ne _ (by decide)]; exact congrFun (C13.1.2 266 (by decide)) j)
  have S14 := C14.1.St H
  refine je_aload0 (pc := 152) d12079_152 rfl ?_
  refine je_aload0 (pc := 153) d12079_153 rfl ?_
  refine ju_getr (pc := 154) (b := 267) d12079_154 jF_12_49 rfl (sK253 S14) (sR253_14 S14) ?_
  refine ju_callv (pc := 157) (as := [_]) d12079_157 jL_12_570 jM_Mo_carryRow rfl (by decide) (sK253 S14) rfl (by exact Nat.le_of_ble_eq_true rfl) (t_Mo_carryRow d (q := q + 208) S14 (sK267 S14) (by decide) (by decide) C14.2.2.1 C14.2.2.2.1 (by omega)) (fun r157 h157 q157 => ?_)
  obtain ⟨rfl, a1, a2, a3, a4, a5⟩ := q157
  have C15 := cyF.go (i := 14) (by decide) C14 a1 a2 a3 a4 a5 (fun j hj => by rw [gN_ne _ (by decide)]; exact congrFun (C14.1.2 267 (by decide)) j)
  have S15 := C15.1.St H
  refine je_aload0 (pc := 160) d12079_160 rfl ?_
  refine je_aload0 (pc := 161) d12079_161 rfl ?_
  refine ju_getr (pc := 162) (b := 268) d12079_162 jF_12_52 rfl (sK253 S15) (sR253_15 S15) ?_
  refine ju_callv (pc := 165) (as := [_]) d12079_165 jL_12_570 jM_Mo_carryRow rfl (by decide) (sK253 S15) rfl (by exact Nat.le_of_ble_eq_true rfl) (t_Mo_carryRow d (q := q + 218) S15 (sK268 S15) (by decide) (by decide) C15.2.2.1 C15.2.2.2.1 (by omega)) (fun r165 h165 q165 => ?_)
  obtain ⟨rfl, a1, a2, a3, a4, a5⟩ := q165
  have C16 := cyF.go (i := 15) (by decide) C15 a1 a2 a3 a4 a5 (fun j hj => by rw [gN_ne _ (by decide)]; exact congrFun (C15.1.2 268 (by decide)) j)
  have S16 := C16.1.St H
  refine je_aload0 (pc := 168) d12079_168 rfl ?_
  refine je_aload0 (pc := 169) d12079_169 rfl ?_
  refine ju_getr (pc := 170) (b := 269) d12079_170 jF_12_55 rfl (sK253 S16) (sR253_16 S16) ?_
  refine ju_callv (pc := 173) (as := [_]) d12079_173 jL_12_570 jM_Mo_carryRow rfl (by decide) (sK253 S16) rfl (by exact Nat.le_of_ble_eq_true rfl) (t_Mo_carryRow d (q := q + 228) S16 (sK269 S16) (by decide) (by decide) C16.2.2.1 C16.2.2.2.1 (by omega)) (fun r173 h173 q173 => ?_)
  obtain ⟨rfl, a1, a2, a3, a4, a5⟩ := q173
  have C17 := cyF.go (i := 16) (by decide) C16 a1 a2 a3 a4 a5 (fun j hj => by rw [gN_ne _ (by decide)]; exact congrFun (C16.1.2 269 (by decide)) j)
  have S17 := C17.1.St H
  refine je_aload0 (pc := 176) d12079_176 rfl ?_
  refine je_aload0 (pc := 177) d12079_177 rfl ?_
  refine ju_getr (pc := 178) (b := 292) d12079_178 jF_12_130 rfl (sK253 S17) (sR253_49 S17) ?_
  refine ju_callv (pc := 181) (as := [_]) d12079_181 jL_12_570 jM_Mo_carryRow rfl (by decide) (sK253 S17) rfl (by exact Nat.le_of_ble_eq_true rfl) (t_Mo_carryRow d (q := q + 229) S17 (sK292 S17) (by decide) (by decide) C17.2.2.1 C17.2.2.2.1 (by omega)) (fun r181 h181 q181 => ?_)
  obtain ⟨rfl, a1, a2, a3, a4, a5⟩ := q181
  have C18 := cyF.go (i := 17) (by decide) C17 a1 a2 a3 a4 a5 (fun j hj => by rw [gN_ne _ (by decide)]; exact congrFun (C17.1.2 292 (by decide)) j)
  have S18 := C18.1.St H
  refine je_ret (pc := 184) d12079_184 rfl ?_
  exact ⟨rfl, C18⟩
set_option maxHeartbeats 2000000 in
theorem t_Mo_carriesAll_4 (d : Nat) {bc bs : Nat} {h : jx_H} {q : Nat} (H : jx_St h) (hqk : q = 1100 * 4) : jx_Tr (d + 2) bc bs 12079 [.ref 253, .int (nI 4), .int 0] h (fun r h' => r = none ∧ cyF h h' q 5) := by
  refine jx_tr jM_Mo_carriesAll rfl rfl (lv := [some (.ref 253), some (.int (nI 4)), some (.int 0)]) rfl ?_
  refine je_aload0 (pc := 0) d12079_0 rfl ?_
  refine je_sipush (pc := 1) (v := 1100) d12079_1 rfl ?_
  refine je_iload1 (pc := 4) d12079_4 rfl ?_
  refine je_imul (pc := 5) d12079_5 ?_
  refine ju_eqi (v := nI (1100 * 4)) (pk_mul 1100 4) ?_
  refine ju_puti (pc := 6) d12079_6 jF_12_567 rfl (sK253 H) ?_
  refine je_aload0 (pc := 9) d12079_9 rfl ?_
  refine je_iload2 (pc := 10) d12079_10 rfl ?_
  refine ju_putz (pc := 11) d12079_11 jF_12_564 rfl (by decide) (sK253 H.wI) ?_
  have C0 : cyF h (jx_wI (jx_wI h 253 66 (nI (1100 * 4))) 253 67 0) q 0 := by
    refine ⟨(fC.rf.wI (by omega)).wI (by omega), fun j h1 h2 => ?_, ?_, ?_, fun t ht => absurd ht (Nat.not_lt_zero t), fun x hx => ?_⟩
    · rw [wI_at, jx_up_ne _ _ h2, wI_at, jx_up_ne _ _ h1]
    · rw [wI_at, jx_up_self]
    · rw [wI_at, jx_up_ne _ _ (by decide), wI_at, jx_up_self, hqk]; rfl
    · rw [wI_ne _ _ _ (by decide), wI_ne _ _ _ (by decide)]
  refine je_aload0 (pc := 14) d12079_14 rfl ?_
  refine je_aload0 (pc := 15) d12079_15 rfl ?_
  refine ju_getr (pc := 16) (b := 254) d12079_16 jF_12_9 rfl (sK253 H.wI.wI) (sR253_1 H.wI.wI) ?_
  refine ju_callv (pc := 19) (as := [_]) d12079_19 jL_12_570 jM_Mo_carryRow rfl (by decide) (sK253 H.wI.wI) rfl (by exact Nat.le_of_ble_eq_true rfl) (t_Mo_carryRow d (q := q + 0) H.wI.wI (sK254 H.wI.wI) (by decide) (by decide) C0.2.2.1 C0.2.2.2.1 (by omega)) (fun r19 h19 q19 => ?_)
  obtain ⟨rfl, a1, a2, a3, a4, a5⟩ := q19
  have C1 := cyF.go (i := 0) (by decide) C0 a1 a2 a3 a4 a5 (fun j hj => by rw [gN_ne _ (by decide)]; exact congrFun (C0.1.2 254 (by decide)) j)
  have S1 := C1.1.St H
  refine je_aload0 (pc := 22) d12079_22 rfl ?_
  refine je_aload0 (pc := 23) d12079_23 rfl ?_
  refine ju_getr (pc := 24) (b := 255) d12079_24 jF_12_13 rfl (sK253 S1) (sR253_2 S1) ?_
  refine ju_callv (pc := 27) (as := [_]) d12079_27 jL_12_570 jM_Mo_carryRow rfl (by decide) (sK253 S1) rfl (by exact Nat.le_of_ble_eq_true rfl) (t_Mo_carryRow d (q := q + 9) S1 (sK255 S1) (by decide) (by decide) C1.2.2.1 C1.2.2.2.1 (by omega)) (fun r27 h27 q27 => ?_)
  obtain ⟨rfl, a1, a2, a3, a4, a5⟩ := q27
  have C2 := cyF.go (i := 1) (by decide) C1 a1 a2 a3 a4 a5 (fun j hj => by rw [gN_ne _ (by decide)]; exact congrFun (C1.1.2 255 (by decide)) j)
  have S2 := C2.1.St H
  refine je_aload0 (pc := 30) d12079_30 rfl ?_
  refine je_aload0 (pc := 31) d12079_31 rfl ?_
  refine ju_getr (pc := 32) (b := 256) d12079_32 jF_12_16 rfl (sK253 S2) (sR253_3 S2) ?_
  refine ju_callv (pc := 35) (as := [_]) d12079_35 jL_12_570 jM_Mo_carryRow rfl (by decide) (sK253 S2) rfl (by exact Nat.le_of_ble_eq_true rfl) (t_Mo_carryRow d (q := q + 19) S2 (sK256 S2) (by decide) (by decide) C2.2.2.1 C2.2.2.2.1 (by omega)) (fun r35 h35 q35 => ?_)
  obtain ⟨rfl, a1, a2, a3, a4, a5⟩ := q35
  have C3 := cyF.go (i := 2) (by decide) C2 a1 a2 a3 a4 a5 (fun j hj => by rw [gN_ne _ (by decide)]; exact congrFun (C2.1.2 256 (by decide)) j)
  have S3 := C3.1.St H
  refine je_aload0 (pc := 38) d12079_38 rfl ?_
  refine je_aload0 (pc := 39) d12079_39 rfl ?_
  refine ju_getr (pc := 40) (b := 257) d12079_40 jF_12_19 rfl (sK253 S3) (sR253_4 S3) ?_
  refine ju_callv (pc := 43) (as := [_]) d12079_43 jL_12_570 jM_Mo_carryRow rfl (by decide) (sK253 S3) rfl (by exact Nat.le_of_ble_eq_true rfl) (t_Mo_carryRow d (q := q + 29) S3 (sK257 S3) (by decide) (by decide) C3.2.2.1 C3.2.2.2.1 (by omega)) (fun r43 h43 q43 => ?_)
  obtain ⟨rfl, a1, a2, a3, a4, a5⟩ := q43
  have C4 := cyF.go (i := 3) (by decide) C3 a1 a2 a3 a4 a5 (fun j hj => by rw [gN_ne _ (by decide)]; exact congrFun (C3.1.2 257 (by decide)) j)
  have S4 := C4.1.St H
  refine je_aload0 (pc := 46) d12079_46 rfl ?_
  refine je_aload0 (pc := 47) d12079_47 rfl ?_
  refine ju_getr (pc := 48) (b := 262) d12079_48 jF_12_34 rfl (sK253 S4) (sR253_9 S4) ?_
  refine ju_callv (pc := 51) (as := [_]) d12079_51 jL_12_570 jM_Mo_carryRow rfl (by decide) (sK253 S4) rfl (by exact Nat.le_of_ble_eq_true rfl) (t_Mo_carryRow d (q := q + 39) S4 (sK262 S4) (by decide) (by decide) C4.2.2.1 C4.2.2.2.1 (by omega)) (fun r51 h51 q51 => ?_)
  obtain ⟨rfl, a1, a2, a3, a4, a5⟩ := q51
  have C5 := cyF.go (i := 4) (by decide) C4 a1 a2 a3 a4 a5 (fun j hj => by rw [gN_ne _ (by decide)]; exact congrFun (C4.1.2 262 (by decide)) j)
  have S5 := C5.1.St H
  refine je_iload1 (pc := 54) d12079_54 rfl ?_
  refine je_iconst (pc := 55) (v := 4) d12079_55 rfl ?_
  refine je_icne (pc := 56) 60 d12079_56 (by decide) (fun c56 => absurd c56 (fun z => z rfl)) (fun c56 => ?_)
  refine je_ret (pc := 59) d12079_59 rfl ?_
  exact ⟨rfl, C5⟩
set_option maxHeartbeats 2000000 in
theorem t_Mo_carriesAll_b (d : Nat) {bc bs : Nat} {h : jx_H} {k q : Nat} (H : jx_St h) (hk : k < 4) (hqk : q = 1100 * k) : jx_Tr (d + 2) bc bs 12079 [.ref 253, .int (nI k), .int 1] h (fun r h' => r = none ∧ cyB h h' q 18) := by
  refine jx_tr jM_Mo_carriesAll rfl rfl (lv := [some (.ref 253), some (.int (nI k)), some (.int 1)]) rfl ?_
  refine je_aload0 (pc := 0) d12079_0 rfl ?_
  refine je_sipush (pc := 1) (v := 1100) d12079_1 rfl ?_
  refine je_iload1 (pc := 4) d12079_4 rfl ?_
  refine je_imul (pc := 5) d12079_5 ?_
  refine ju_eqi (v := nI (1100 * k)) (pk_mul 1100 k) ?_
  refine ju_puti (pc := 6) d12079_6 jF_12_567 rfl (sK253 H) ?_
  refine je_aload0 (pc := 9) d12079_9 rfl ?_
  refine je_iload2 (pc := 10) d12079_10 rfl ?_
  refine ju_putz (pc := 11) d12079_11 jF_12_564 rfl (by decide) (sK253 H.wI) ?_
  have C0 : cyB h (jx_wI (jx_wI h 253 66 (nI (1100 * k))) 253 67 1) q 0 := by
    refine ⟨(fC.rf.wI (by omega)).wI (by omega), fun j h1 h2 h3 => ?_, ?_, ?_, fun t ht => absurd ht (Nat.not_lt_zero t), fun _ => ?_⟩
    · rw [wI_at, jx_up_ne _ _ h2, wI_at, jx_up_ne _ _ h1]
    · rw [wI_at, jx_up_self]
    · rw [wI_at, jx_up_ne _ _ (by decide), wI_at, jx_up_self, hqk]; rfl
    · rw [wI_at, jx_up_ne _ _ (by decide), wI_at, jx_up_ne _ _ (by decide)]
  refine je_aload0 (pc := 14) d12079_14 rfl ?_
  refine je_aload0 (pc := 15) d12079_15 rfl ?_
  refine ju_getr (pc := 16) (b := 254) d12079_16 jF_12_9 rfl (sK253 H.wI.wI) (sR253_1 H.wI.wI) ?_
  refine ju_callv (pc := 19) (as := [_]) d12079_19 jL_12_570 jM_Mo_carryRow rfl (by decide) (sK253 H.wI.wI) rfl (by exact Nat.le_of_ble_eq_true rfl) (t_Mo_carryRow_b d (q := q + 0) H.wI.wI (sK254 H.wI.wI) (by decide) (by decide) C0.2.2.1 C0.2.2.2.1 (by omega)) (fun r19 h19 q19 => ?_)
  obtain ⟨rfl, a1, a2, a3, a4⟩ := q19
  have C1 := cyB.go (i := 0) (by decide) (by decide) C0 a1 a2 a3 a4
  have S1 := C1.1.St H
  refine je_aload0 (pc := 22) d12079_22 rfl ?_
  refine je_aload0 (pc := 23) d12079_23 rfl ?_
  refine ju_getr (pc := 24) (b := 255) d12079_24 jF_12_13 rfl (sK253 S1) (sR253_2 S1) ?_
  refine ju_callv (pc := 27) (as := [_]) d12079_27 jL_12_570 jM_Mo_carryRow rfl (by decide) (sK253 S1) rfl (by exact Nat.le_of_ble_eq_true rfl) (t_Mo_carryRow_b d (q := q + 9) S1 (sK255 S1) (by decide) (by decide) C1.2.2.1 C1.2.2.2.1 (by omega)) (fun r27 h27 q27 => ?_)
  obtain ⟨rfl, a1, a2, a3, a4⟩ := q27
  have C2 := cyB.go (i := 1) (by decide) (by decide) C1 a1 a2 a3 a4
  have S2 := C2.1.St H
  refine je_aload0 (pc := 30) d12079_30 rfl ?_
  refine je_aload0 (pc := 31) d12079_31 rfl ?_
  refine ju_getr (pc := 32) (b := 256) d12079_32 jF_12_16 rfl (sK253 S2) (sR253_3 S2) ?_
  refine ju_callv (pc := 35) (as := [_]) d12079_35 jL_12_570 jM_Mo_carryRow rfl (by decide) (sK253 S2) rfl (by exact Nat.le_of_ble_eq_true rfl) (t_Mo_carryRow_b d (q := q + 19) S2 (sK256 S2) (by decide) (by decide) C2.2.2.1 C2.2.2.2.1 (by omega)) (fun r35 h35 q35 => ?_)
  obtain ⟨rfl, a1, a2, a3, a4⟩ := q35
  have C3 := cyB.go (i := 2) (by decide) (by decide) C2 a1 a2 a3 a4
  have S3 := C3.1.St H
  refine je_aload0 (pc := 38) d12079_38 rfl ?_
  refine je_aload0 (pc := 39) d12079_39 rfl ?_
  refine ju_getr (pc := 40) (b := 257) d12079_40 jF_12_19 rfl (sK253 S3) (sR253_4 S3) ?_
  refine ju_callv (pc := 43) (as := [_]) d12079_43 jL_12_570 jM_Mo_carryRow rfl (by decide) (sK253 S3) rfl (by exact Nat.le_of_ble_eq_true rfl) (t_Mo_carryRow_b d (q := q + 29) S3 (sK257 S3) (by decide) (by decide) C3.2.2.1 C3.2.2.2.1 (by omega)) (fun r43 h43 q43 => ?_)
  obtain ⟨rfl, a1, a2, a3, a4⟩ := q43
  have C4 := cyB.go (i := 3) (by decide) (by decide) C3 a1 a2 a3 a4
  have S4 := C4.1.St H
  refine je_aload0 (pc := 46) d12079_46 rfl ?_
  refine je_aload0 (pc := 47) d12079_47 rfl ?_
  refine ju_getr (pc := 48) (b := 262) d12079_48 jF_12_34 rfl (sK253 S4) (sR253_9 S4) ?_
  refine ju_callv (pc := 51) (as := [_]) d12079_51 jL_12_570 jM_Mo_carryRow rfl (by decide) (sK253 S4) rfl (by exact Nat.le_of_ble_eq_true rfl) (t_Mo_carryRow_b d (q := q + 39) S4 (sK262 S4) (by decide) (by decide) C4.2.2.1 C4.2.2.2.1 (by omega)) (fun r51 h51 q51 => ?_)
  obtain ⟨rfl, a1, a2, a3, a4⟩ := q51
  have C5 := cyB.go (i := 4) (by decide) (by decide) C4 a1 a2 a3 a4
  have S5 := C5.1.St H
  refine je_iload1 (pc := 54) d12079_54 rfl ?_
  refine je_iconst (pc := 55) (v := 4) d12079_55 rfl ?_
  refine je_icne (pc := 56) 60 d12079_56 (by decide) (fun c56 => ?_) (fun c56 => absurd c56 (fun z => absurd ((nI_eq (b := 4) (by omega) (by omega)).mp z) (by omega)))
  refine je_aload0 (pc := 60) d12079_60 rfl ?_
  refine ju_getr (pc := 61) (b := 293) d12079_61 jF_12_133 rfl (sK253 S5) (sR253_50 S5) ?_
  refine je_iconst (pc := 64) (v := 0) d12079_64 rfl ?_
  refine je_aload0 (pc := 65) d12079_65 rfl ?_
  refine ju_geti (pc := 66) d12079_66 jF_12_361 rfl (sK253 S5) ?_
  refine ju_iast (pc := 69) (jn := 0) d12079_69 (sK293 S5) (by first | assumption | exact jx_ok_dec (by decide)) (by decide) ?_
  refine je_aload0 (pc := 70) d12079_70 rfl ?_
  refine je_aload0 (pc := 71) d12079_71 rfl ?_
  refine ju_getr (pc := 72) (b := 293) d12079_72 jF_12_133 rfl (sK253 S5.wI) (sR253_50 S5.wI) ?_
  refine ju_callv (pc := 75) (as := [_]) d12079_75 jL_12_570 jM_Mo_carryRow rfl (by decide) (sK253 S5.wI) rfl (by exact Nat.le_of_ble_eq_true rfl) (t_Mo_carryRow_b d (q := q + 47) S5.wI (sK293 S5.wI) (by decide) (by decide) (by rw [wI_ne _ _ _ (by decide)]; exact C5.2.2.1) (by rw [wI_ne _ _ _ (by decide)]; exact C5.2.2.2.1) (by omega)) (fun r75 h75 q75 => ?_)
  obtain ⟨rfl, a1, a2, a3, a4⟩ := q75
  have S6 := a1.St S5.wI
  have C6 := C5.ring a1 a2 a3 a4
  refine je_aload0 (pc := 78) d12079_78 rfl ?_
  refine je_aload0 (pc := 79) d12079_79 rfl ?_
  refine ju_getr (pc := 80) (b := 293) d12079_80 jF_12_133 rfl (sK253 S6) (sR253_50 S6) ?_
  refine je_iconst (pc := 83) (v := 0) d12079_83 rfl ?_
  refine ju_iald (pc := 84) (jn := 0) d12079_84 (sK293 S6) (by first | assumption | exact jx_ok_dec (by decide)) (by decide) ?_
  refine ju_puti (pc := 85) d12079_85 jF_12_361 rfl (sK253 S6) ?_
  refine je_aload0 (pc := 88) d12079_88 rfl ?_
  refine je_aload0 (pc := 89) d12079_89 rfl ?_
  refine ju_getr (pc := 90) (b := 258) d12079_90 jF_12_22 rfl (sK253 S6.wI) (sR253_5 S6.wI) ?_
  refine ju_callv (pc := 93) (as := [_]) d12079_93 jL_12_570 jM_Mo_carryRow rfl (by decide) (sK253 S6.wI) rfl (by exact Nat.le_of_ble_eq_true rfl) (t_Mo_carryRow_b d (q := q + 48) S6.wI (sK258 S6.wI) (by decide) (by decide) C6.2.2.1 C6.2.2.2.1 (by omega)) (fun r93 h93 q93 => ?_)
  obtain ⟨rfl, a1, a2, a3, a4⟩ := q93
  have C7 := cyB.go (i := 6) (by decide) (by decide) C6 a1 a2 a3 a4
  have S7 := C7.1.St H
  refine je_aload0 (pc := 96) d12079_96 rfl ?_
  refine je_aload0 (pc := 97) d12079_97 rfl ?_
  refine ju_getr (pc := 98) (b := 259) d12079_98 jF_12_25 rfl (sK253 S7) (sR253_6 S7) ?_
  refine ju_callv (pc := 101) (as := [_]) d12079_101 jL_12_570 jM_Mo_carryRow rfl (by decide) (sK253 S7) rfl (by exact Nat.le_of_ble_eq_true rfl) (t_Mo_carryRow_b d (q := q + 148) S7 (sK259 S7) (by decide) (by decide) C7.2.2.1 C7.2.2.2.1 (by omega)) (fun r101 h101 q101 => ?_)
  obtain ⟨rfl, a1, a2, a3, a4⟩ := q101
  have C8 := cyB.go (i := 7) (by decide) (by decide) C7 a1 a2 a3 a4
  have S8 := C8.1.St H
  refine je_aload0 (pc := 104) d12079_104 rfl ?_
  refine je_aload0 (pc := 105) d12079_105 rfl ?_
  refine ju_getr (pc := 106) (b := 260) d12079_106 jF_12_28 rfl (sK253 S8) (sR253_7 S8) ?_
  refine ju_callv (pc := 109) (as := [_]) d12079_109 jL_12_570 jM_Mo_carryRow rfl (by decide) (sK253 S8) rfl (by exact Nat.le_of_ble_eq_true rfl) (t_Mo_carryRow_b d (q := q + 156) S8 (sK260 S8) (by decide) (by decide) C8.2.2.1 C8.2.2.2.1 (by omega)) (fun r109 h109 q109 => ?_)
  obtain ⟨rfl, a1, a2, a3, a4⟩ := q109
  have C9 := cyB.go (i := 8) (by decide) (by decide) C8 a1 a2 a3 a4
  have S9 := C9.1.St H
  refine je_aload0 (pc := 112) d12079_112 rfl ?_
  refine je_aload0 (pc := 113) d12079_113 rfl ?_
  refine ju_getr (pc := 114) (b := 261) d12079_114 jF_12_31 rfl (sK253 S9) (sR253_8 S9) ?_
  refine ju_callv (pc := 117) (as := [_]) d12079_117 jL_12_570 jM_Mo_carryRow rfl (by decide) (sK253 S9) rfl (by exact Nat.le_of_ble_eq_true rfl) (t_Mo_carryRow_b d (q := q + 164) S9 (sK261 S9) (by decide) (by decide) C9.2.2.1 C9.2.2.2.1 (by omega)) (fun r117 h117 q117 => ?_)
  obtain ⟨rfl, a1, a2, a3, a4⟩ := q117
  have C10 := cyB.go (i := 9) (by decide) (by decide) C9 a1 a2 a3 a4
  have S10 := C10.1.St H
  refine je_aload0 (pc := 120) d12079_120 rfl ?_
  refine je_aload0 (pc := 121) d12079_121 rfl ?_
  refine ju_getr (pc := 122) (b := 263) d12079_122 jF_12_37 rfl (sK253 S10) (sR253_10 S10) ?_
  refine ju_callv (pc := 125) (as := [_]) d12079_125 jL_12_570 jM_Mo_carryRow rfl (by decide) (sK253 S10) rfl (by exact Nat.le_of_ble_eq_true rfl) (t_Mo_carryRow_b d (q := q + 172) S10 (sK263 S10) (by decide) (by decide) C10.2.2.1 C10.2.2.2.1 (by omega)) (fun r125 h125 q125 => ?_)
  obtain ⟨rfl, a1, a2, a3, a4⟩ := q125
  have C11 := cyB.go (i := 10) (by decide) (by decide) C10 a1 a2 a3 a4
  have S11 := C11.1.St H
  refine je_aload0 (pc := 128) d12079_128 rfl ?_
  refine je_aload0 (pc := 129) d12079_129 rfl ?_
  refine ju_getr (pc := 130) (b := 264) d12079_130 jF_12_40 rfl (sK253 S11) (sR253_11 S11) ?_
  refine ju_callv (pc := 133) (as := [_]) d12079_133 jL_12_570 jM_Mo_carryRow rfl (by decide) (sK253 S11) rfl (by exact Nat.le_of_ble_eq_true rfl) (t_Mo_carryRow_b d (q := q + 180) S11 (sK264 S11) (by decide) (by decide) C11.2.2.1 C11.2.2.2.1 (by omega)) (fun r133 h133 q133 => ?_)
  obtain ⟨rfl, a1, a2, a3, a4⟩ := q133
  have C12 := cyB.go (i := 11) (by decide) (by decide) C11 a1 a2 a3 a4
  have S12 := C12.1.St H
  refine je_aload0 (pc := 136) d12079_136 rfl ?_
  refine je_aload0 (pc := 137) d12079_137 rfl ?_
  refine ju_getr (pc := 138) (b := 265) d12079_138 jF_12_43 rfl (sK253 S12) (sR253_12 S12) ?_
  refine ju_callv (pc := 141) (as := [_]) d12079_141 jL_12_570 jM_Mo_carryRow rfl (by decide) (sK253 S12) rfl (by exact Nat.le_of_ble_eq_true rfl) (t_Mo_carryRow_b d (q := q + 188) S12 (sK265 S12) (by decide) (by decide) C12.2.2.1 C12.2.2.2.1 (by omega)) (fun r141 h141 q141 => ?_)
  obtain ⟨rfl, a1, a2, a3, a4⟩ := q141
  have C13 := cyB.go (i := 12) (by decide) (by decide) C12 a1 a2 a3 a4
  have S13 := C13.1.St H
  refine je_aload0 (pc := 144) d12079_144 rfl ?_
  refine je_aload0 (pc := 145) d12079_145 rfl ?_
  refine ju_getr (pc := 146) (b := 266) d12079_146 jF_12_46 rfl (sK253 S13) (sR253_13 S13) ?_
  refine ju_callv (pc := 149) (as := [_]) d12079_149 jL_12_570 jM_Mo_carryRow rfl (by decide) (sK253 S13) rfl (by exact Nat.le_of_ble_eq_true rfl) (t_Mo_carryRow_b d (q := q + 198) S13 (sK266 S13) (by decide) (by decide) C13.2.2.1 C13.2.2.2.1 (by omega)) (fun r149 h149 q149 => ?_)
  obtain ⟨rfl, a1, a2, a3, a4⟩ := q149
  have C14 := cyB.go (i := 13) (by decide) (by decide) C13 a1 a2 a3 a4
  have S14 := C14.1.St H
  refine je_aload0 (pc := 152) d12079_152 rfl ?_
  refine je_aload0 (pc := 153) d12079_153 rfl ?_
  refine ju_getr (pc := 154) (b := 267) d12079_154 jF_12_49 rfl (sK253 S14) (sR253_14 S14) ?_
  refine ju_callv (pc := 157) (as := [_]) d12079_157 jL_12_570 jM_Mo_carryRow rfl (by decide) (sK253 S14) rfl (by exact Nat.le_of_ble_eq_true rfl) (t_Mo_carryRow_b d (q := q + 208) S14 (sK267 S14) (by decide) (by decide) C14.2.2.1 C14.2.2.2.1 (by omega)) (fun r157 h157 q157 => ?_)
  obtain ⟨rfl, a1, a2, a3, a4⟩ := q157
  have C15 := cyB.go (i := 14) (by decide) (by decide) C14 a1 a2 a3 a4
  have S15 := C15.1.St H
  refine je_aload0 (pc := 160) d12079_160 rfl ?_
  refine je_aload0 (pc := 161) d12079_161 rfl ?_
  refine ju_getr (pc := 162) (b := 268) d12079_162 jF_12_52 rfl (sK253 S15) (sR253_15 S15) ?_
  refine ju_callv (pc := 165) (as := [_]) d12079_165 jL_12_570 jM_Mo_carryRow rfl (by decide) (sK253 S15) rfl (by exact Nat.le_of_ble_eq_true rfl) (t_Mo_carryRow_b d (q := q + 218) S15 (sK268 S15) (by decide) (by decide) C15.2.2.1 C15.2.2.2.1 (by omega)) (fun r165 h165 q165 => ?_)
  obtain ⟨rfl, a1, a2, a3, a4⟩ := q165
  have C16 := cyB.go (i := 15) (by decide) (by decide) C15 a1 a2 a3 a4
  have S16 := C16.1.St H
  refine je_aload0 (pc := 168) d12079_168 rfl ?_
  refine je_aload0 (pc := 169) d12079_169 rfl ?_
  refine ju_getr (pc := 170) (b := 269) d12079_170 jF_12_55 rfl (sK253 S16) (sR253_16 S16) ?_
  refine ju_callv (pc := 173) (as := [_]) d12079_173 jL_12_570 jM_Mo_carryRow rfl (by decide) (sK253 S16) rfl (by exact Nat.le_of_ble_eq_true rfl) (t_Mo_carryRow_b d (q := q + 228) S16 (sK269 S16) (by decide) (by decide) C16.2.2.1 C16.2.2.2.1 (by omega)) (fun r173 h173 q173 => ?_)
  obtain ⟨rfl, a1, a2, a3, a4⟩ := q173
  have C17 := cyB.go (i := 16) (by decide) (by decide) C16 a1 a2 a3 a4
  have S17 := C17.1.St H
  refine je_aload0 (pc := 176) d12079_176 rfl ?_
  refine je_aload0 (pc := 177) d12079_177 rfl ?_
  refine ju_getr (pc := 178) (b := 292) d12079_178 jF_12_130 rfl (sK253 S17) (sR253_49 S17) ?_
  refine ju_callv (pc := 181) (as := [_]) d12079_181 jL_12_570 jM_Mo_carryRow rfl (by decide) (sK253 S17) rfl (by exact Nat.le_of_ble_eq_true rfl) (t_Mo_carryRow_b d (q := q + 229) S17 (sK292 S17) (by decide) (by decide) C17.2.2.1 C17.2.2.2.1 (by omega)) (fun r181 h181 q181 => ?_)
  obtain ⟨rfl, a1, a2, a3, a4⟩ := q181
  have C18 := cyB.go (i := 17) (by decide) (by decide) C17 a1 a2 a3 a4
  have S18 := C18.1.St H
  refine je_ret (pc := 184) d12079_184 rfl ?_
  exact ⟨rfl, C18⟩
set_option maxHeartbeats 2000000 in
theorem t_Mo_carriesAll_4b (d : Nat) {bc bs : Nat} {h : jx_H} {q : Nat} (H : jx_St h) (hqk : q = 1100 * 4) : jx_Tr (d + 2) bc bs 12079 [.ref 253, .int (nI 4), .int 1] h (fun r h' => r = none ∧ cyB h h' q 5) := by
  refine jx_tr jM_Mo_carriesAll rfl rfl (lv := [some (.ref 253), some (.int (nI 4)), some (.int 1)]) rfl ?_
  refine je_aload0 (pc := 0) d12079_0 rfl ?_
  refine je_sipush (pc := 1) (v := 1100) d12079_1 rfl ?_
  refine je_iload1 (pc := 4) d12079_4 rfl ?_
  refine je_imul (pc := 5) d12079_5 ?_
  refine ju_eqi (v := nI (1100 * 4)) (pk_mul 1100 4) ?_
  refine ju_puti (pc := 6) d12079_6 jF_12_567 rfl (sK253 H) ?_
  refine je_aload0 (pc := 9) d12079_9 rfl ?_
  refine je_iload2 (pc := 10) d12079_10 rfl ?_
  refine ju_putz (pc := 11) d12079_11 jF_12_564 rfl (by decide) (sK253 H.wI) ?_
  have C0 : cyB h (jx_wI (jx_wI h 253 66 (nI (1100 * 4))) 253 67 1) q 0 := by
    refine ⟨(fC.rf.wI (by omega)).wI (by omega), fun j h1 h2 h3 => ?_, ?_, ?_, fun t ht => absurd ht (Nat.not_lt_zero t), fun _ => ?_⟩
    · rw [wI_at, jx_up_ne _ _ h2, wI_at, jx_up_ne _ _ h1]
    · rw [wI_at, jx_up_self]
    · rw [wI_at, jx_up_ne _ _ (by decide), wI_at, jx_up_self, hqk]; rfl
    · rw [wI_at, jx_up_ne _ _ (by decide), wI_at, jx_up_ne _ _ (by decide)]
  refine je_aload0 (pc := 14) d12079_14 rfl ?_
  refine je_aload0 (pc := 15) d12079_15 rfl ?_
  refine ju_getr (pc := 16) (b := 254) d12079_16 jF_12_9 rfl (sK253 H.wI.wI) (sR253_1 H.wI.wI) ?_
  refine ju_callv (pc := 19) (as := [_]) d12079_19 jL_12_570 jM_Mo_carryRow rfl (by decide) (sK253 H.wI.wI) rfl (by exact Nat.le_of_ble_eq_true rfl) (t_Mo_carryRow_b d (q := q + 0) H.wI.wI (sK254 H.wI.wI) (by decide) (by decide) C0.2.2.1 C0.2.2.2.1 (by omega)) (fun r19 h19 q19 => ?_)
  obtain ⟨rfl, a1, a2, a3, a4⟩ := q19
  have C1 := cyB.go (i := 0) (by decide) (by decide) C0 a1 a2 a3 a4
  have S1 := C1.1.St H
  refine je_aload0 (pc := 22) d12079_22 rfl ?_
  refine je_aload0 (pc := 23) d12079_23 rfl ?_
  refine ju_getr (pc := 24) (b := 255) d12079_24 jF_12_13 rfl (sK253 S1) (sR253_2 S1) ?_
  refine ju_callv (pc := 27) (as := [_]) d12079_27 jL_12_570 jM_Mo_carryRow rfl (by decide) (sK253 S1) rfl (by exact Nat.le_of_ble_eq_true rfl) (t_Mo_carryRow_b d (q := q + 9) S1 (sK255 S1) (by decide) (by decide) C1.2.2.1 C1.2.2.2.1 (by omega)) (fun r27 h27 q27 => ?_)
  obtain ⟨rfl, a1, a2, a3, a4⟩ := q27
  have C2 := cyB.go (i := 1) (by decide) (by decide) C1 a1 a2 a3 a4
  have S2 := C2.1.St H
  refine je_aload0 (pc := 30) d12079_30 rfl ?_
  refine je_aload0 (pc := 31) d12079_31 rfl ?_
  refine ju_getr (pc := 32) (b := 256) d12079_32 jF_12_16 rfl (sK253 S2) (sR253_3 S2) ?_
  refine ju_callv (pc := 35) (as := [_]) d12079_35 jL_12_570 jM_Mo_carryRow rfl (by decide) (sK253 S2) rfl (by exact Nat.le_of_ble_eq_true rfl) (t_Mo_carryRow_b d (q := q + 19) S2 (sK256 S2) (by decide) (by decide) C2.2.2.1 C2.2.2.2.1 (by omega)) (fun r35 h35 q35 => ?_)
  obtain ⟨rfl, a1, a2, a3, a4⟩ := q35
  have C3 := cyB.go (i := 2) (by decide) (by decide) C2 a1 a2 a3 a4
  have S3 := C3.1.St H
  refine je_aload0 (pc := 38) d12079_38 rfl ?_
  refine je_aload0 (pc := 39) d12079_39 rfl ?_
  refine ju_getr (pc := 40) (b := 257) d12079_40 jF_12_19 rfl (sK253 S3) (sR253_4 S3) ?_
  refine ju_callv (pc := 43) (as := [_]) d12079_43 jL_12_570 jM_Mo_carryRow rfl (by decide) (sK253 S3) rfl (by exact Nat.le_of_ble_eq_true rfl) (t_Mo_carryRow_b d (q := q + 29) S3 (sK257 S3) (by decide) (by decide) C3.2.2.1 C3.2.2.2.1 (by omega)) (fun r43 h43 q43 => ?_)
  obtain ⟨rfl, a1, a2, a3, a4⟩ := q43
  have C4 := cyB.go (i := 3) (by decide) (by decide) C3 a1 a2 a3 a4
  have S4 := C4.1.St H
  refine je_aload0 (pc := 46) d12079_46 rfl ?_
  refine je_aload0 (pc := 47) d12079_47 rfl ?_
  refine ju_getr (pc := 48) (b := 262) d12079_48 jF_12_34 rfl (sK253 S4) (sR253_9 S4) ?_
  refine ju_callv (pc := 51) (as := [_]) d12079_51 jL_12_570 jM_Mo_carryRow rfl (by decide) (sK253 S4) rfl (by exact Nat.le_of_ble_eq_true rfl) (t_Mo_carryRow_b d (q := q + 39) S4 (sK262 S4) (by decide) (by decide) C4.2.2.1 C4.2.2.2.1 (by omega)) (fun r51 h51 q51 => ?_)
  obtain ⟨rfl, a1, a2, a3, a4⟩ := q51
  have C5 := cyB.go (i := 4) (by decide) (by decide) C4 a1 a2 a3 a4
  have S5 := C5.1.St H
  refine je_iload1 (pc := 54) d12079_54 rfl ?_
  refine je_iconst (pc := 55) (v := 4) d12079_55 rfl ?_
  refine je_icne (pc := 56) 60 d12079_56 (by decide) (fun c56 => absurd c56 (fun z => z rfl)) (fun c56 => ?_)
  refine je_ret (pc := 59) d12079_59 rfl ?_
  exact ⟨rfl, C5⟩
