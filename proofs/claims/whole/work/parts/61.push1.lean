/-! push: mathematics; the class -/
/-- the least of those below N -/
def lsF (P : Nat → Bool) : Nat → Option Nat
  | 0 => none
  | t + 1 => match lsF P t with
    | some r => some r
    | none => if P t = true then some t else none
theorem ls_n {P : Nat → Bool} : ∀ {N : Nat}, lsF P N = none ↔ ∀ i, i < N → P i = false
  | 0 => ⟨fun _ i hi => absurd hi (Nat.not_lt_zero i), fun _ => rfl⟩
  | N + 1 => by
    rw [lsF]
    cases e : lsF P N with
    | some r => 
      refine ⟨fun h => (by cases h), fun h => ?_⟩
      have := (ls_n (P := P) (N := N)).mpr (fun i hi => h i (by omega))
      rw [e] at this
      cases this
    | none =>
      have h1 := (ls_n (P := P) (N := N)).mp e
      constructor
      · intro h i hi
        by_cases c : i = N
        · subst c
          cases q : P i
          · rfl
          · simp [q] at h
        · exact h1 i (by omega)
      · intro h
        simp [h N (by omega)]
theorem ls_s {P : Nat → Bool} {r : Nat} : ∀ {N : Nat}, lsF P N = some r ↔ r < N ∧ P r = true ∧ ∀ i, i < r → P i = false
  | 0 => ⟨fun h => (by cases h), fun h => absurd h.1 (Nat.not_lt_zero r)⟩
  | N + 1 => by
    rw [lsF]
    cases e : lsF P N with
    | some q =>
      have h1 := (ls_s (P := P) (r := q) (N := N)).mp e
      constructor
      · intro h
        cases h
        exact ⟨by omega, h1.2⟩
      · intro h
        have : q = r := by
          rcases Nat.lt_trichotomy q r with c | c | c
          · have := h.2.2 q c; rw [h1.2.1] at this; cases this
          · exact c
          · have := h1.2.2 r c; rw [h.2.1] at this; cases this
        rw [this]
    | none =>
      have h1 := (ls_n (P := P) (N := N)).mp e
      constructor
      · intro h
        cases q : P N
        · simp [q] at h
        · simp [q] at h
          subst h
          exact ⟨by omega, q, h1⟩
      · intro h
        have : r = N := by
          by_cases c : r = N
          · exact c
          · have := h1 r (by omega); rw [h.2.1] at this; cases this
        subst this
        simp [h.2.1]
def mvL (m : Nat) (f : Int32) (L : ML) : ML := (jx_up L.1 m (mhold (L.1 m + f) (-20) 20), L.2)
def pmL (c : Nat) (L : ML) : ML := if c = 0 then L else mvL ((c - 1) / 2) (if (c - 1) % 2 = 1 then 2 else -2) L
abbrev okD (L : ML) (c : Nat) : Prop := c = 0 ∨ ¬ bkd L.2.2.2.2.1 (nI ((c - 1) / 2))
def stL (S : MS) (R : Option MR) (L : ML) (c : Nat) : ML := nxF S R (pmL c L)
def wnB (S : MS) (l : Nat → Int32) : Nat → Bool
  | 0 => true
  | k + 1 => wnB S l k && decide (sdM S l (S.2.1.2.2.2.2.1 k).toNatClampNeg = S.2.1.2.2.2.2.2 k)
def gpF (S : MS) (R : Option MR) : Nat → ML → Nat → Bool
  | 0, L, _ => wnB S L.1 S.1.2.2.1
  | k + 1, L, r => decide (okD L (r / (2 * S.1.1 + 1) ^ k)) && gpF S R k (stL S R L (r / (2 * S.1.1 + 1) ^ k)) (r % (2 * S.1.1 + 1) ^ k)
def cnD (o : Nat) : Nat → Nat → Nat
  | 0, _ => 0
  | k + 1, r => (if r / o ^ k = 0 then 0 else 1) + cnD o k (r % o ^ k)
theorem cnD_le (o : Nat) : ∀ k r, cnD o k r ≤ k
  | 0, _ => Nat.le_refl _
  | k + 1, r => by have := cnD_le o k (r % o ^ k); rw [cnD]; split <;> omega
def rwP (S : MS) (R : Option MR) (k : Nat) (L : ML) (q r : Nat) : Bool := gpF S R k L r && decide (cnD (2 * S.1.1 + 1) k r = q)
theorem wn_all {S : MS} {l : Nat → Int32} : ∀ {n : Nat}, wnB S l n = true → ∀ k, k < n → sdM S l (S.2.1.2.2.2.2.1 k).toNatClampNeg = S.2.1.2.2.2.2.2 k
  | 0, _, k, hk => absurd hk (Nat.not_lt_zero k)
  | n + 1, h, k, hk => by
    rw [wnB, Bool.and_eq_true, decide_eq_true_eq] at h
    by_cases c : k = n
    · rw [c]; exact h.2
    · exact wn_all h.1 k (by omega)
theorem mv_id {L : ML} (h : bdI (L.1 0) (-20) 20) : mvL 0 0 L = L := by
  unfold mvL
  have e : mhold (L.1 0 + 0) (-20) 20 = L.1 0 := by
    rw [Int32.add_zero]
    unfold mhold
    have h1 := h.1
    have h2 := h.2
    rw [if_neg (by rw [fa_lt, show (-20 : Int32).toInt = -20 from rfl]; omega), if_neg (by rw [fa_lt, show (20 : Int32).toInt = 20 from rfl]; omega)]
  rw [e]
  have : jx_up L.1 0 (L.1 0) = L.1 := funext (fun j => by unfold jx_up; split <;> simp [*])
  rw [this]
theorem wfL.mv {n mi nv m : Nat} {L : ML} {f : Int32} (w : wfL n mi nv L) : wfL n mi nv (mvL m f L) := w.w1 (mhold_bd rfl rfl (by decide))
theorem wfL.st {n c : Nat} {S : MS} {R : Option MR} {L : ML} (wS : wfS S) (hmi : S.1.1 ≤ 10) (hn : n < 100000) (l : wfL n S.1.1 S.1.2.1 L) : wfL (n + 1) S.1.1 S.1.2.1 (stL S R L c) := by
  refine wfL.night hmi hn (warmF_bd wS _) ?_
  unfold pmL
  split
  · exact l
  · exact l.mv
theorem pm_n (c : Nat) (L : ML) : (pmL c L).2.2.2.2.2 = L.2.2.2.2.2 := by unfold pmL; split <;> rfl
theorem pm_b (c : Nat) (L : ML) : (pmL c L).2.2.2.2.1 = L.2.2.2.2.1 := by unfold pmL; split <;> rfl
theorem st_n {S : MS} {R : Option MR} {L : ML} {c nn : Nat} (h : L.2.2.2.2.2 = nI nn) : (stL S R L c).2.2.2.2.2 = nI (nn + 1) := by
  show (pmL c L).2.2.2.2.2 + 1 = _
  rw [pm_n, h, nI_1]
set_option maxHeartbeats 2000000 in
theorem t_St_hasItsWants (d : Nat) {bc bs : Nat} {h : jx_H} {s a : Nat} {S : MS} {l : Nat → Int32} (P : jx_Sp h s) (A : jx_La h a) (hS : rS h.2.1 s S) (wS : wfS S) (hl : ∀ m, m < 10 → h.2.1 (a + 1) m = l m) : jx_Tr (d + 2) bc bs 3004 [.ref s, .ref a] h (fun r h' => r = some (.int (b2 (wnB S l S.1.2.2.1 = true))) ∧ h' = h) := by
  refine jx_tr jM_St_hasItsWants rfl rfl (lv := [some (.ref s), some (.ref a), none]) rfl ?_
  have w8 := wS.2.1
  have w9 := wS.2.2.1
  refine je_iconst (pc := 0) (v := 0) d3004_0 rfl ?_
  refine ju_istore2 (pc := 1) (lv' := [some _, some _, some _]) d3004_1 rfl rfl ?_
  refine je_loop (σ := Unit) (S.1.2.2.1) (fun k xx => [some (.ref s), some (.ref a), some (.int (nI k))]) (fun k _ h' => h' = h ∧ wnB S l k = true) (fun k xx h' hk e kk => ?_) (fun xx h' e => ?_) (0) () h (by omega) ⟨rfl, rfl⟩
  · obtain ⟨e0, e1⟩ := e
    obtain rfl := e0.symm
    obtain ⟨⟨v, hv, ev⟩, -⟩ := wS.2.2.2.2.2.2.1 k hk
    obtain ⟨q1, q2⟩ := hS.2.2.2.2.1 k hk
    obtain ⟨⟨m, hm, em⟩, -, -⟩ := wS.2.2.2.2.2.1 v hv
    obtain ⟨v1, v2, -⟩ := hS.2.2.1 v hv
    have hm10 : m < 10 := by rcases wS.1 with z | z <;> omega
    refine je_iload2 (pc := 2) d3004_2 rfl ?_
    refine je_aload0 (pc := 3) d3004_3 rfl ?_
    refine ju_geti (pc := 4) d3004_4 jF_3_47 rfl P.1.1 ?_
    refine ju_eqi (v := nI S.1.2.2.1) hS.1.2.2.2 ?_
    refine jn_icge (pc := 7) (a := (k)) (b := (S.1.2.2.1)) 38 d3004_7 (by decide) (by omega) (by omega) (fun c7 => by exfalso; omega) (fun c7 => ?_)
    refine je_aload0 (pc := 10) d3004_10 rfl ?_
    refine je_aload1 (pc := 11) d3004_11 rfl ?_
    refine je_aload0 (pc := 12) d3004_12 rfl ?_
    refine ju_getr (pc := 13) (b := (s + 6)) d3004_13 jF_3_27 rfl P.1.1 P.1.2.2.2.2.2.2.1.2 ?_
    refine je_iload2 (pc := 16) d3004_16 rfl ?_
    refine ju_iald (pc := 17) (jn := (k)) d3004_17 P.1.2.2.2.2.2.2.1.1 (vp_in_nI (by omega) (by decide)) (nI_clamp (by omega)) ?_
    refine ju_eqi (v := nI v) (q1.trans ev) ?_
    refine ju_callv (pc := 18) (as := [_, _]) d3004_18 jL_3_50 jM_St_sideOf rfl (by decide) P.1.1 rfl (by exact Nat.le_of_ble_eq_true rfl) (t_St_sideOf d (m := m) P A (by omega) hm10 (v1.trans em)) (fun r18 h18 q18 => ?_)
    obtain ⟨rfl, e18⟩ := q18
    obtain rfl := e18.symm
    refine ju_eqi (v := sdM S l (S.2.1.2.2.2.2.1 k).toNatClampNeg) (by rw [ev, nI_clamp (by omega)]; unfold sdM vM vP; rw [em, nI_clamp (by omega), hl m hm10, v2]) ?_
    refine je_aload0 (pc := 21) d3004_21 rfl ?_
    refine ju_getr (pc := 22) (b := (s + 7)) d3004_22 jF_3_30 rfl P.1.1 P.1.2.2.2.2.2.2.2.1.2 ?_
    refine je_iload2 (pc := 25) d3004_25 rfl ?_
    refine ju_iald (pc := 26) (jn := (k)) d3004_26 P.1.2.2.2.2.2.2.2.1.1 (vp_in_nI (by omega) (by decide)) (nI_clamp (by omega)) ?_
    refine ju_eqi (v := S.2.1.2.2.2.2.2 k) q2 ?_
    refine je_iceq (pc := 27) 32 d3004_27 (by decide) (fun c27 => ?_) (fun c27 => ?_)
    · refine ju_incN (pc := 32) (v := nI ((k) + 1)) (lv' := [some _, some _, some _]) d3004_32 rfl (nI_1 (k)) rfl ?_
      refine je_goto (pc := 35) 2 d3004_35 (by decide) ?_
      exact kk () _ ⟨rfl, by rw [wnB, e1, decide_eq_true c27]; rfl⟩
    · refine je_iconst (pc := 30) (v := 0) d3004_30 rfl ?_
      refine je_zret (pc := 31) d3004_31 rfl (Or.inl rfl) ?_
      exact ⟨by rw [b2_f (fun q => c27 (wn_all q k hk))], rfl⟩
  · obtain ⟨e0, e1⟩ := e
    obtain rfl := e0.symm
    refine je_iload2 (pc := 2) d3004_2 rfl ?_
    refine je_aload0 (pc := 3) d3004_3 rfl ?_
    refine ju_geti (pc := 4) d3004_4 jF_3_47 rfl P.1.1 ?_
    refine ju_eqi (v := nI S.1.2.2.1) hS.1.2.2.2 ?_
    refine jn_icge (pc := 7) (a := ((S.1.2.2.1))) (b := (S.1.2.2.1)) 38 d3004_7 (by decide) (by omega) (by omega) (fun c7 => ?_) (fun c7 => by exfalso; omega)
    refine je_iconst (pc := 38) (v := 1) d3004_38 rfl ?_
    refine je_zret (pc := 39) d3004_39 rfl (Or.inr rfl) ?_
    exact ⟨by rw [b2_t e1], rfl⟩
theorem r80 {h : jx_H} (H : jx_St h) : ∀ {k : Nat}, k < 5 → jx_rv (h.2.2.2 80 (nI k).toNatClampNeg) = .ref (82 + 5 * k)
  | 0, _ => congrArg jx_rv (sR80_0 H)
  | 1, _ => congrArg jx_rv (sR80_1 H)
  | 2, _ => congrArg jx_rv (sR80_2 H)
  | 3, _ => congrArg jx_rv (sR80_3 H)
  | 4, _ => congrArg jx_rv (sR80_4 H)
theorem ln_A {k : Nat} (h : k < 5) : lA (82 + 5 * k) := by unfold lA; omega
set_option maxHeartbeats 2000000 in
theorem t_Co_goOn (d : Nat) {bc bs : Nat} {h : jx_H} {S : MS} {R : Option MR} {L : ML} {nn k m : Nat} (H : jx_St h) (C : cLaw h S R) (wS : wfS S) (h0 : 0 < S.1.1) (hk : k < 4) (hL : rL h.2.1 (82 + 5 * k) L) (hN : L.2.2.2.2.2 = nI nn) (hn : nn < 998) (hm : m < 10) (x : Int32) : jx_Tr (d + 5) bc bs 10003 [.ref 79, .int (nI k), .int (nI m), .int x] h (fun r h' => r = none ∧ fC (fun b => b = 65 ∨ 82 + 5 * (k + 1) ≤ b ∧ b ≤ 82 + 5 * (k + 1) + 4) h h' ∧ rL h'.2.1 (82 + 5 * (k + 1)) (nxF S R (mvL m x L))) := by
  refine jx_tr jM_Co_goOn rfl rfl (lv := [some (.ref 79), some (.int (nI k)), some (.int (nI m)), some (.int x), none]) rfl ?_
  refine je_aload0 (pc := 0) d10003_0 rfl ?_
  refine ju_getr (pc := 1) (b := 80) d10003_1 jF_10_11 rfl (sK79 H) (sR79_1 H) ?_
  refine je_iload1 (pc := 4) d10003_4 rfl ?_
  refine je_iconst (pc := 5) (v := 1) d10003_5 rfl ?_
  refine je_iadd (pc := 6) d10003_6 ?_
  refine ju_eqi (v := nI ((k) + 1)) (nI_add (k) 1) ?_
  refine je_aald (pc := 7) d10003_7 (by decide) (sK80 H) (vp_in_nI (by omega) (by decide)) (v := .ref (82 + 5 * (k + 1))) (r80 H (by omega)) ?_
  refine ju_astore (pc := 8) (lv' := [some _, some _, some _, some _, some _]) d10003_8 rfl rfl ?_
  refine je_aload (pc := 10) d10003_10 rfl ?_
  refine je_aload0 (pc := 12) d10003_12 rfl ?_
  refine ju_getr (pc := 13) (b := 80) d10003_13 jF_10_11 rfl (sK79 H) (sR79_1 H) ?_
  refine je_iload1 (pc := 16) d10003_16 rfl ?_
  refine je_aald (pc := 17) d10003_17 (by decide) (sK80 H) (vp_in_nI (by omega) (by decide)) (v := .ref (82 + 5 * k)) (r80 H (by omega)) ?_
  refine ju_callv (pc := 18) (as := [_]) d10003_18 jL_10_26 jM_La_copyFrom rfl (by decide) (lA_La H (ln_A (by omega))).1 rfl (by exact Nat.le_of_ble_eq_true rfl) (t_La_copyFrom (d + 2) (a := 82 + 5 * (k + 1)) (b := 82 + 5 * k) (lA_La H (ln_A (by omega))) (lA_La H (ln_A (by omega))) (by omega)) (fun r18 h18 q18 => ?_)
  obtain ⟨rfl, f1, f2⟩ := q18
  have H1 := f1.St H
  have L1 := f2 L hL
  refine je_aload (pc := 21) d10003_21 rfl ?_
  refine je_iload2 (pc := 23) d10003_23 rfl ?_
  refine je_iload3 (pc := 24) d10003_24 rfl ?_
  refine ju_callv (pc := 25) (as := [_, _]) d10003_25 jL_10_58 jM_La_moveLine rfl (by decide) (lA_La H1 (ln_A (by omega))).1 rfl (by exact Nat.le_of_ble_eq_true rfl) (t_La_moveLine (d + 2) (a := 82 + 5 * (k + 1)) (m := m) (lA_La H1 (ln_A (by omega))) hm _) (fun r25 h25 q25 => ?_)
  obtain ⟨rfl, e25⟩ := q25
  rw [L1.1 m hm] at e25
  obtain rfl := e25.symm
  have L2 := L1.w1 (j := m) (v := mhold (L.1 m + x) (-20) 20)
  have g1 : fC (fun b => b = 65 ∨ 82 + 5 * (k + 1) ≤ b ∧ b ≤ 82 + 5 * (k + 1) + 4) h (jx_wI h18 (82 + 5 * (k + 1) + 1) m (mhold (L.1 m + x) (-20) 20)) := (f1.mo (fun b hb => by omega)).wI (by omega)
  have H2 := g1.St H
  refine je_aload0 (pc := 28) d10003_28 rfl ?_
  refine ju_getr (pc := 29) (b := 51) d10003_29 jF_10_21 rfl (sK79 H2) (sR79_0 H2) ?_
  refine je_aload (pc := 32) d10003_32 rfl ?_
  refine je_iconst (pc := 34) (v := -1) d10003_34 rfl ?_
  refine ju_callv (pc := 35) (as := [_, _]) d10003_35 jL_10_62 jM_Lw_pass rfl (by decide) (sK51 H2) rfl (by exact Nat.le_of_ble_eq_true rfl) (t_Lw_pass d (a := 82 + 5 * (k + 1)) H2 (C.fr g1 (fun b hb => olA (by omega))) wS h0 (ln_A (by omega)) L2 (nn := nn) hN hn (-1) _ rfl) (fun r35 h35 q35 => ?_)
  obtain ⟨rfl, f3, f4⟩ := q35
  rw [if_pos rfl] at f4
  refine je_pop (pc := 38) d10003_38 rfl ?_
  refine je_ret (pc := 39) d10003_39 rfl ?_
  exact ⟨rfl, g1.tr (f3.mo (fun b hb => by omega)), f4⟩
theorem rw_0 {S : MS} {R : Option MR} {L : ML} {k q i : Nat} (hi : i < (2 * S.1.1 + 1) ^ k) : rwP S R (k + 1) L q i = rwP S R k (stL S R L 0) q i := by
  unfold rwP
  rw [gpF, cnD, Nat.div_eq_of_lt hi, Nat.mod_eq_of_lt hi, if_pos rfl, Nat.zero_add, decide_eq_true (Or.inl rfl), Bool.true_and]
theorem rw_c {S : MS} {R : Option MR} {L : ML} {k q c i : Nat} (hi : i < (2 * S.1.1 + 1) ^ k) (hc : 0 < c) : rwP S R (k + 1) L (q + 1) (c * (2 * S.1.1 + 1) ^ k + i) = (decide (okD L c) && rwP S R k (stL S R L c) q i) := by
  have p0 : 0 < (2 * S.1.1 + 1) ^ k := Nat.pow_pos (by omega)
  have d1 : (c * (2 * S.1.1 + 1) ^ k + i) / (2 * S.1.1 + 1) ^ k = c := by rw [Nat.add_comm, Nat.add_mul_div_right _ _ p0, Nat.div_eq_of_lt hi, Nat.zero_add]
  have d2 : (c * (2 * S.1.1 + 1) ^ k + i) % (2 * S.1.1 + 1) ^ k = i := by rw [Nat.add_comm, Nat.add_mul_mod_self_right, Nat.mod_eq_of_lt hi]
  unfold rwP
  rw [gpF, cnD, d1, d2, if_neg (by omega), Bool.and_assoc]
  congr 2
  by_cases z : cnD (2 * S.1.1 + 1) k i = q
  · rw [decide_eq_true z, decide_eq_true (by omega)]
  · rw [decide_eq_false z, decide_eq_false (by omega)]
theorem rw_z {S : MS} {R : Option MR} {L : ML} {k c i : Nat} (hi : i < (2 * S.1.1 + 1) ^ k) (hc : 0 < c) : rwP S R (k + 1) L 0 (c * (2 * S.1.1 + 1) ^ k + i) = false := by
  have p0 : 0 < (2 * S.1.1 + 1) ^ k := Nat.pow_pos (by omega)
  have d1 : (c * (2 * S.1.1 + 1) ^ k + i) / (2 * S.1.1 + 1) ^ k = c := by rw [Nat.add_comm, Nat.add_mul_div_right _ _ p0, Nat.div_eq_of_lt hi, Nat.zero_add]
  unfold rwP
  rw [cnD, d1, if_neg (by omega), decide_eq_false (by omega), Bool.and_false]
theorem rw_m {S : MS} {R : Option MR} {L : ML} {k q i : Nat} (hi : i < (2 * S.1.1 + 1) ^ k) (hq : k < q) : rwP S R (k + 1) L q i = false := by
  rw [rw_0 hi]
  have := cnD_le (2 * S.1.1 + 1) k i
  unfold rwP
  rw [decide_eq_false (by omega), Bool.and_false]
/-- a place of a row, by its first digit -/
theorem split_i {o k i N : Nat} (ho : 0 < o) (h : i < N * o ^ k) : ∃ c j, c < N ∧ j < o ^ k ∧ i = c * o ^ k + j := by
  have p0 : 0 < o ^ k := Nat.pow_pos ho
  refine ⟨i / o ^ k, i % o ^ k, ?_, Nat.mod_lt _ p0, (Nat.div_add_mod' i (o ^ k)).symm⟩
  exact (Nat.div_lt_iff_lt_mul p0).mpr h
set_option maxHeartbeats 8000000 in
theorem co_find {S : MS} {R : Option MR} (wS : wfS S) (h0 : 0 < S.1.1) (hmi : S.1.1 ≤ 10) : ∀ (rem : Nat) (d : Nat) {bc bs : Nat} {h : jx_H} {L : ML} {nn nl g q : Nat}, jx_St h → cLaw h S R → g + rem ≤ 3 → q ≤ rem → rL h.2.1 (82 + 5 * g) L → L.2.2.2.2.2 = nI nn → nn + rem < 998 → wfL nl S.1.1 S.1.2.1 L → nl + rem < 2000 → jx_Tr (d + rem + 6) bc bs 10002 [.ref 79, .int (nI g), .int (nI (g + rem)), .int (nI q)] h (fun r' h' => r' = some (.int (b2 ((lsF (rwP S R rem L q) ((2 * S.1.1 + 1) ^ rem)).isSome = true))) ∧ fC (fun b => b = 65 ∨ b = 81 ∨ 82 + 5 * (g + 1) ≤ b ∧ b ≤ 106) h h' ∧ (∀ j, j < g → h'.2.1 81 j = h.2.1 81 j) ∧ ∀ r, lsF (rwP S R rem L q) ((2 * S.1.1 + 1) ^ rem) = some r → ∀ k, k < rem → h'.2.1 81 (g + k) = nI (r % (2 * S.1.1 + 1) ^ (rem - k) / (2 * S.1.1 + 1) ^ (rem - k - 1)) - 1)
  | 0, d, bc, bs, h, L, nn, nl, g, q, H, C, hg, hq, hL, hN, hn, wl, hnl => by
    show jx_Tr (d + 6) bc bs 10002 _ h _
    obtain ⟨s, c1, c2, c3, c4, -⟩ := id C
    refine jx_tr jM_Co_findRow rfl rfl (lv := [some (.ref 79), some (.int (nI g)), some (.int (nI (g + 0))), some (.int (nI q)), none]) rfl ?_
    refine je_iload1 (pc := 0) d10002_0 rfl ?_
    refine je_iload2 (pc := 1) d10002_1 rfl ?_
    refine jn_icge (pc := 2) (a := (g)) (b := (g + 0)) 10 d10002_2 (by decide) (by omega) (by omega) (fun c2 => ?_) (fun c2 => by exfalso; omega)
    refine je_aload0 (pc := 10) d10002_10 rfl ?_
    refine ju_getr (pc := 11) (b := 51) d10002_11 jF_10_21 rfl (sK79 H) (sR79_0 H) ?_
    refine ju_getr (pc := 14) (b := s) d10002_14 jF_10_34 rfl (sK51 H) c1 ?_
    refine je_aload0 (pc := 17) d10002_17 rfl ?_
    refine ju_getr (pc := 18) (b := 80) d10002_18 jF_10_11 rfl (sK79 H) (sR79_1 H) ?_
    refine je_iload1 (pc := 21) d10002_21 rfl ?_
    refine je_aald (pc := 22) d10002_22 (by decide) (sK80 H) (vp_in_nI (by omega) (by decide)) (v := .ref (82 + 5 * g)) (r80 H (by omega)) ?_
    refine ju_callv (pc := 23) (as := [_]) d10002_23 jL_10_40 jM_St_hasItsWants rfl (by decide) c3.1.1 rfl (by exact Nat.le_of_ble_eq_true rfl) (t_St_hasItsWants (d + 3) (S := S) (l := L.1) c3 (lA_La H (ln_A (by omega))) c4 wS hL.1) (fun r23 h23 q23 => ?_)
    obtain ⟨rfl, e23⟩ := q23
    obtain rfl := e23.symm
    refine je_zret (pc := 26) d10002_26 rfl (b2_01 _) ?_
    have q0 : q = 0 := by omega
    subst q0
    have e : (lsF (rwP S R 0 L 0) ((2 * S.1.1 + 1) ^ 0)).isSome = true ↔ wnB S L.1 S.1.2.2.1 = true := by
      show (if (wnB S L.1 S.1.2.2.1 && decide (0 = 0)) = true then some 0 else none).isSome = true ↔ _
      cases wnB S L.1 S.1.2.2.1 <;> simp
    exact ⟨by rw [b2_c e], fC.rf, fun _ _ => rfl, fun r _ k hk => absurd hk (Nat.not_lt_zero k)⟩
  | rem + 1, d, bc, bs, h, L, nn, nl, g, q, H, C, hg, hq, hL, hN, hn, wl, hnl => by
    show jx_Tr (d + rem + 7) bc bs 10002 _ h _
    have ih := co_find (S := S) (R := R) wS h0 hmi rem
    have pB : 0 < (2 * S.1.1 + 1) ^ rem := Nat.pow_pos (by omega)
    have pS : (2 * S.1.1 + 1) ^ (rem + 1) = (2 * S.1.1 + 1) ^ rem * (2 * S.1.1 + 1) := Nat.pow_succ ..
    have lf : (lsF (rwP S R (rem + 1) L q) ((2 * S.1.1 + 1) ^ (rem + 1))).isSome = true → ∀ {P : Prop}, lsF (rwP S R (rem + 1) L q) ((2 * S.1.1 + 1) ^ (rem + 1)) = none → P := fun a {P} b => by rw [b] at a; cases a
    refine jx_tr jM_Co_findRow rfl rfl (lv := [some (.ref 79), some (.int (nI g)), some (.int (nI (g + (rem + 1)))), some (.int (nI q)), none]) rfl ?_
    have key : ∀ h1 : jx_H, fC (fun b => b = 65 ∨ b = 81 ∨ 82 + 5 * (g + 1) ≤ b ∧ b ≤ 106) h h1 → (∀ j, j < g → h1.2.1 81 j = h.2.1 81 j) → (∀ i, i < (2 * S.1.1 + 1) ^ rem → rwP S R (rem + 1) L q i = false) → jx_Ev (d + rem + 7) bc bs 10002 62 [some (.ref 79), some (.int (nI g)), some (.int (nI (g + (rem + 1)))), some (.int (nI q)), none] [] h1 (fun r' h' => r' = some (.int (b2 ((lsF (rwP S R (rem + 1) L q) ((2 * S.1.1 + 1) ^ (rem + 1))).isSome = true))) ∧ fC (fun b => b = 65 ∨ b = 81 ∨ 82 + 5 * (g + 1) ≤ b ∧ b ≤ 106) h h' ∧ (∀ j, j < g → h'.2.1 81 j = h.2.1 81 j) ∧ ∀ r, lsF (rwP S R (rem + 1) L q) ((2 * S.1.1 + 1) ^ (rem + 1)) = some r → ∀ k, k < (rem + 1) → h'.2.1 81 (g + k) = nI (r % (2 * S.1.1 + 1) ^ ((rem + 1) - k) / (2 * S.1.1 + 1) ^ ((rem + 1) - k - 1)) - 1) := by
      intro h1 t1 t2 t3
      refine je_iconst (pc := 62) (v := 0) d10002_62 rfl ?_
      refine ju_istore (pc := 63) (lv' := [some _, some _, some _, some _, some _]) d10002_63 rfl rfl ?_
      refine je_loop (σ := Unit) (2 * S.1.1) (fun k xx => [some (.ref 79), some (.int (nI g)), some (.int (nI (g + (rem + 1)))), some (.int (nI q)), some (.int (nI k))]) (fun k _ h' => fC (fun b => b = 65 ∨ b = 81 ∨ 82 + 5 * (g + 1) ≤ b ∧ b ≤ 106) h h' ∧ (∀ j, j < g → h'.2.1 81 j = h.2.1 81 j) ∧ ∀ i, i < (k + 1) * (2 * S.1.1 + 1) ^ rem → rwP S R (rem + 1) L q i = false) (fun k xx h' hk e kk => ?_) (fun xx h' e => ?_) (0) () h1 (by omega) ⟨t1, t2, fun i hi => t3 i (by rw [Nat.zero_add, Nat.one_mul] at hi; exact hi)⟩
      · obtain ⟨e1, e2, e3⟩ := e
        have H1 := e1.St H
        have C1 := C.fr e1 (fun b hb => olA (by omega))
        obtain ⟨s, c1, c2, c3, c4, -⟩ := id C1
        have L1 : rL h'.2.1 (82 + 5 * g) L := hL.of (fun b h1 h2 => e1.2 b (by omega))
        refine je_iload3 (pc := 65) d10002_65 rfl ?_
        refine jn_ifle (pc := 66) (a := (q)) 154 d10002_66 (by decide) (by omega) (fun c66 => ?_) (fun c66 => ?_)
        · refine je_iconst (pc := 154) (v := 0) d10002_154 rfl ?_
          refine je_zret (pc := 155) d10002_155 rfl (Or.inl rfl) ?_
          have nn1 : lsF (rwP S R (rem + 1) L q) ((2 * S.1.1 + 1) ^ (rem + 1)) = none := ls_n.mpr (fun i hi => by
            obtain ⟨c, j, hc, hj, rfl⟩ := split_i (by omega) (show i < (2 * S.1.1 + 1) * (2 * S.1.1 + 1) ^ rem by rw [Nat.mul_comm, ← pS]; exact hi)
            have q0 : q = 0 := by omega
            subst q0
            by_cases z : c = 0
            · rw [z, Nat.zero_mul, Nat.zero_add]; exact t3 j hj
            · exact rw_z hj (by omega))
          rw [nn1]
          exact ⟨rfl, e1, e2, fun r hr => by cases hr⟩
        · obtain ⟨q1, rfl⟩ : ∃ q1, q = q1 + 1 := ⟨q - 1, by omega⟩
          refine je_iload (pc := 69) d10002_69 rfl ?_
          refine je_iconst (pc := 71) (v := 2) d10002_71 rfl ?_
          refine je_aload0 (pc := 72) d10002_72 rfl ?_
          refine ju_getr (pc := 73) (b := 51) d10002_73 jF_10_21 rfl (sK79 H1) (sR79_0 H1) ?_
          refine ju_getr (pc := 76) (b := s) d10002_76 jF_10_34 rfl (sK51 H1) c1 ?_
          refine ju_geti (pc := 79) d10002_79 jF_10_50 rfl c3.1.1 ?_
          refine ju_eqi (v := nI S.1.1) c4.1.1 ?_
          refine je_imul (pc := 82) d10002_82 ?_
          refine ju_eqi (v := nI (2 * (S.1.1))) (pk_mul 2 (S.1.1)) ?_
          refine jn_icge (pc := 83) (a := (k)) (b := (2 * (S.1.1))) 154 d10002_83 (by decide) (by omega) (by omega) (fun c83 => by exfalso; omega) (fun c83 => ?_)
          refine je_aload0 (pc := 86) d10002_86 rfl ?_
          refine ju_getr (pc := 87) (b := 80) d10002_87 jF_10_11 rfl (sK79 H1) (sR79_1 H1) ?_
          refine je_iload1 (pc := 90) d10002_90 rfl ?_
          refine je_aald (pc := 91) d10002_91 (by decide) (sK80 H1) (vp_in_nI (by omega) (by decide)) (v := .ref (82 + 5 * g)) (r80 H1 (by omega)) ?_
          refine je_iload (pc := 92) d10002_92 rfl ?_
          refine je_iconst (pc := 94) (v := 2) d10002_94 rfl ?_
          refine je_idiv (pc := 95) d10002_95 (by decide) ?_
          refine ju_eqi (v := nI (k / 2)) (pk_div (d := 2) (by omega) (by decide) (by decide)) ?_
          refine ju_callv (pc := 96) (as := [_]) d10002_96 jL_10_54 jM_La_isBaked rfl (by decide) (lA_La H1 (ln_A (by omega))).1 rfl (by exact Nat.le_of_ble_eq_true rfl) (t_La_isBaked (d + rem + 5) (a := 82 + 5 * g) (lA_La H1 (ln_A (by omega))) _) (fun r96 h96 q96 => ?_)
          obtain ⟨rfl, e96⟩ := q96
          obtain rfl := e96.symm
          refine jb_ifne (pc := 99) 148 d10002_99 (by decide) (fun c99 => ?_) (fun c99 => ?_)
          · refine ju_incN (pc := 148) (v := nI ((k) + 1)) (lv' := [some _, some _, some _, some _, some _]) d10002_148 rfl (nI_1 (k)) rfl ?_
            refine je_goto (pc := 151) 65 d10002_151 (by decide) ?_
            refine kk () _ ⟨e1, e2, fun i hi => ?_⟩
            by_cases z : i < (k + 1) * (2 * S.1.1 + 1) ^ rem
            · exact e3 i z
            · obtain ⟨j, rfl⟩ : ∃ j, i = (k + 1) * (2 * S.1.1 + 1) ^ rem + j := ⟨i - (k + 1) * (2 * S.1.1 + 1) ^ rem, by omega⟩
              rw [rw_c (by rw [Nat.add_mul (k + 1) 1, Nat.one_mul] at hi; omega) (by omega), decide_eq_false (fun y => y.elim (fun y => by omega) (fun y => y (by rw [L1.2.2.2.2.1] at c99; rw [show k + 1 - 1 = k by omega]; exact c99))), Bool.false_and]
          · refine je_aload0 (pc := 102) d10002_102 rfl ?_
            refine ju_getr (pc := 103) (b := 81) d10002_103 jF_10_17 rfl (sK79 H1) (sR79_2 H1) ?_
            refine je_iload1 (pc := 106) d10002_106 rfl ?_
            refine je_iload (pc := 107) d10002_107 rfl ?_
            refine ju_iast (pc := 109) (jn := (g)) d10002_109 (sK81 H1) (vp_in_nI (by omega) (by decide)) (nI_clamp (by omega)) ?_
            refine je_aload0 (pc := 110) d10002_110 rfl ?_
            refine je_iload1 (pc := 111) d10002_111 rfl ?_
            refine je_iload (pc := 112) d10002_112 rfl ?_
            refine je_iconst (pc := 114) (v := 2) d10002_114 rfl ?_
            refine je_idiv (pc := 115) d10002_115 (by decide) ?_
            refine ju_eqi (v := nI (k / 2)) (pk_div (d := 2) (by omega) (by decide) (by decide)) ?_
            refine je_iload (pc := 116) d10002_116 rfl ?_
            refine je_iconst (pc := 118) (v := 2) d10002_118 rfl ?_
            refine je_irem (pc := 119) d10002_119 (by decide) ?_
            refine ju_eqi (v := nI (k % 2)) (pk_rem (d := 2) (by omega) (by decide) (by decide)) ?_
            refine ju_tern1 (pc := 120) (V := (if (k + 1 - 1) % 2 = 1 then 2 else -2)) 129 ?_ (fun jn120 => ?_)
            · refine ju_callv (pc := 129) (as := [_, _, _]) d10002_129 jL_10_46 jM_Co_goOn rfl (by decide) (sK79 H1.wI) rfl (by exact Nat.le_of_ble_eq_true rfl) (t_Co_goOn (d + rem + 1) (k := g) (m := k / 2) (H1.wI) (C1.fr ((fC.rf (A := fun b => b = 81)).wI rfl) (fun b hb => olA (by omega))) wS h0 (by omega) (L1.of (fun b h1 h2 => wI_ne _ _ _ (by omega))) hN (by omega) (by omega) _) (fun r129 h129 q129 => ?_)
              obtain ⟨rfl, f1, f2⟩ := q129
              have H2 := f1.St H1.wI
              have g1 : fC (fun b => b = 65 ∨ b = 81 ∨ 82 + 5 * (g + 1) ≤ b ∧ b ≤ 106) h h129 := (e1.wI (by omega)).tr (f1.mo (fun b hb => by omega))
              have es : stL S R L (k + 1) = nxF S R (mvL (k / 2) (if (k + 1 - 1) % 2 = 1 then (2 : Int32) else -2) L) := by
                unfold stL pmL
                rw [if_neg (by omega), show k + 1 - 1 = k by omega]
              rw [← es] at f2
              refine je_aload0 (pc := 132) d10002_132 rfl ?_
              refine je_iload1 (pc := 133) d10002_133 rfl ?_
              refine je_iconst (pc := 134) (v := 1) d10002_134 rfl ?_
              refine je_iadd (pc := 135) d10002_135 ?_
              refine ju_eqi (v := nI ((g) + 1)) (nI_add (g) 1) ?_
              refine je_iload2 (pc := 136) d10002_136 rfl ?_
              refine je_iload3 (pc := 137) d10002_137 rfl ?_
              refine je_iconst (pc := 138) (v := 1) d10002_138 rfl ?_
              refine je_isub (pc := 139) d10002_139 ?_
              refine ju_eqi (v := nI q1) (top2 q1) ?_
              refine ju_callv (pc := 140) (as := [_, _, _]) d10002_140 jL_10_30 jM_Co_findRow rfl (by decide) (sK79 H2) rfl (by exact Nat.le_of_ble_eq_true rfl) (by have := ih d (h := h129) (L := stL S R L (k + 1)) (nn := nn + 1) (nl := nl + 1) (g := g + 1) (q := q1) (bc := 0) (bs := 0) H2 (C.fr g1 (fun b hb => olA (by omega))) (by omega) (by omega) f2 (st_n hN) (by omega) (wfL.st wS hmi (by omega) wl) (by omega); rw [show g + 1 + rem = g + (rem + 1) by omega] at this; exact this) (fun r140 h140 q140 => ?_)
              obtain ⟨rfl, f3, f4, f5⟩ := q140
              refine jb_ifeq (pc := 143) 148 d10002_143 (by decide) (fun c143 => ?_) (fun c143 => ?_)
              · refine ju_incN (pc := 148) (v := nI ((k) + 1)) (lv' := [some _, some _, some _, some _, some _]) d10002_148 rfl (nI_1 (k)) rfl ?_
                refine je_goto (pc := 151) 65 d10002_151 (by decide) ?_
                refine kk () _ ⟨g1.tr (f3.mo (fun b hb => by omega)), fun j hj => ?_, fun i hi => ?_⟩
                · rw [f4 j (by omega), f1.2 81 (by omega), wI_at, jx_up_ne _ _ (by omega)]; exact e2 j hj
                · by_cases z : i < (k + 1) * (2 * S.1.1 + 1) ^ rem
                  · exact e3 i z
                  · obtain ⟨j, rfl⟩ : ∃ j, i = (k + 1) * (2 * S.1.1 + 1) ^ rem + j := ⟨i - (k + 1) * (2 * S.1.1 + 1) ^ rem, by omega⟩
                    have hj : j < (2 * S.1.1 + 1) ^ rem := by rw [Nat.add_mul (k + 1) 1, Nat.one_mul] at hi; omega
                    have nn2 : lsF (rwP S R rem (stL S R L (k + 1)) q1) ((2 * S.1.1 + 1) ^ rem) = none := by
                      cases z2 : lsF (rwP S R rem (stL S R L (k + 1)) q1) ((2 * S.1.1 + 1) ^ rem) with
                      | none => rfl
                      | some r => exact absurd (by rw [z2]; rfl) c143
                    rw [rw_c hj (by omega), ls_n.mp nn2 j hj, Bool.and_false]
              · refine je_iconst (pc := 146) (v := 1) d10002_146 rfl ?_
                refine je_zret (pc := 147) d10002_147 rfl (Or.inr rfl) ?_
                obtain ⟨r, er⟩ := Option.isSome_iff_exists.mp c143
                obtain ⟨s1, s2, s3⟩ := ls_s.mp er
                have okc : okD L (k + 1) := Or.inr (fun y => c99 (by rw [L1.2.2.2.2.1]; rw [show k + 1 - 1 = k by omega] at y; exact y))
                have el : lsF (rwP S R (rem + 1) L (q1 + 1)) ((2 * S.1.1 + 1) ^ (rem + 1)) = some ((k + 1) * (2 * S.1.1 + 1) ^ rem + r) := by
                  refine ls_s.mpr ⟨?_, ?_, fun i hi => ?_⟩
                  · rw [pS, Nat.mul_comm ((2 * S.1.1 + 1) ^ rem) (2 * S.1.1 + 1)]
                    exact Nat.lt_of_lt_of_le (show _ < (k + 1 + 1) * (2 * S.1.1 + 1) ^ rem by rw [Nat.add_mul (k + 1) 1, Nat.one_mul]; omega) (Nat.mul_le_mul_right _ (by omega))
                  · rw [rw_c s1 (by omega), decide_eq_true okc, s2]; rfl
                  · by_cases z : i < (k + 1) * (2 * S.1.1 + 1) ^ rem
                    · exact e3 i z
                    · obtain ⟨j, rfl⟩ : ∃ j, i = (k + 1) * (2 * S.1.1 + 1) ^ rem + j := ⟨i - (k + 1) * (2 * S.1.1 + 1) ^ rem, by omega⟩
                      rw [rw_c (by omega) (by omega), s3 j (by omega), Bool.and_false]
                rw [el]
                refine ⟨rfl, g1.tr (f3.mo (fun b hb => by omega)), fun j hj => ?_, fun r' hr' j hj => ?_⟩
                · rw [f4 j (by omega), f1.2 81 (by omega), wI_at, jx_up_ne _ _ (by omega)]; exact e2 j hj
                · cases hr'
                  by_cases z : j = 0
                  · subst z
                    rw [f4 (g + 0) (by omega), f1.2 81 (by omega), wI_at, Nat.add_zero, jx_up_self]
                    have d1 : ((k + 1) * (2 * S.1.1 + 1) ^ rem + r) / (2 * S.1.1 + 1) ^ rem = k + 1 := by rw [Nat.add_comm, Nat.add_mul_div_right _ _ pB, Nat.div_eq_of_lt s1, Nat.zero_add]
                    rw [show rem + 1 - 0 = rem + 1 by omega, show rem + 1 - 1 = rem by omega, Nat.mod_eq_of_lt (ls_s.mp el).1, d1]
                    exact (nI_pred k).symm
                  · have := f5 r er (j - 1) (by omega)
                    rw [show g + 1 + (j - 1) = g + j by omega, show rem - (j - 1) = rem + 1 - j by omega] at this
                    rw [this]
                    have dv : (2 * S.1.1 + 1) ^ (rem + 1 - j) ∣ (2 * S.1.1 + 1) ^ rem := Nat.pow_dvd_pow _ (by omega)
                    have e5 : ((k + 1) * (2 * S.1.1 + 1) ^ rem + r) % (2 * S.1.1 + 1) ^ (rem + 1 - j) = r % (2 * S.1.1 + 1) ^ (rem + 1 - j) := by
                      rw [← Nat.mod_mod_of_dvd _ dv, Nat.add_comm, Nat.add_mul_mod_self_right, Nat.mod_mod_of_dvd _ dv]
                    rw [e5]
            · refine jn_ifne (pc := 120) (a := (k % 2)) 128 d10002_120 (by decide) (by omega) (fun c120 => ?_) (fun c120 => ?_)
              · refine je_iconst (pc := 128) (v := 2) d10002_128 rfl ?_
                refine ju_eqi (v := (if (k + 1 - 1) % 2 = 1 then 2 else -2)) (by rw [if_pos (by omega)]) ?_
                exact jn120
              · refine je_bipush (pc := 123) (v := -2) d10002_123 rfl ?_
                refine je_goto (pc := 125) 129 d10002_125 (by decide) ?_
                refine ju_eqi (v := (if (k + 1 - 1) % 2 = 1 then 2 else -2)) (by rw [if_neg (by omega)]) ?_
                exact jn120
      · obtain ⟨e1, e2, e3⟩ := e
        have H1 := e1.St H
        have C1 := C.fr e1 (fun b hb => olA (by omega))
        obtain ⟨s, c1, c2, c3, c4, -⟩ := id C1
        have L1 : rL h'.2.1 (82 + 5 * g) L := hL.of (fun b h1 h2 => e1.2 b (by omega))
        refine je_iload3 (pc := 65) d10002_65 rfl ?_
        refine jn_ifle (pc := 66) (a := (q)) 154 d10002_66 (by decide) (by omega) (fun c66 => ?_) (fun c66 => ?_)
        · refine je_iconst (pc := 154) (v := 0) d10002_154 rfl ?_
          refine je_zret (pc := 155) d10002_155 rfl (Or.inl rfl) ?_
          have nn1 : lsF (rwP S R (rem + 1) L q) ((2 * S.1.1 + 1) ^ (rem + 1)) = none := ls_n.mpr (fun i hi => e3 i (by rw [pS, Nat.mul_comm] at hi; exact hi))
          rw [nn1]
          exact ⟨rfl, e1, e2, fun r hr => by cases hr⟩
        · refine je_iload (pc := 69) d10002_69 rfl ?_
          refine je_iconst (pc := 71) (v := 2) d10002_71 rfl ?_
          refine je_aload0 (pc := 72) d10002_72 rfl ?_
          refine ju_getr (pc := 73) (b := 51) d10002_73 jF_10_21 rfl (sK79 H1) (sR79_0 H1) ?_
          refine ju_getr (pc := 76) (b := s) d10002_76 jF_10_34 rfl (sK51 H1) c1 ?_
          refine ju_geti (pc := 79) d10002_79 jF_10_50 rfl c3.1.1 ?_
          refine ju_eqi (v := nI S.1.1) c4.1.1 ?_
          refine je_imul (pc := 82) d10002_82 ?_
          refine ju_eqi (v := nI (2 * (S.1.1))) (pk_mul 2 (S.1.1)) ?_
          refine jn_icge (pc := 83) (a := ((2 * S.1.1))) (b := (2 * (S.1.1))) 154 d10002_83 (by decide) (by omega) (by omega) (fun c83 => ?_) (fun c83 => by exfalso; omega)
          refine je_iconst (pc := 154) (v := 0) d10002_154 rfl ?_
          refine je_zret (pc := 155) d10002_155 rfl (Or.inl rfl) ?_
          have nn1 : lsF (rwP S R (rem + 1) L q) ((2 * S.1.1 + 1) ^ (rem + 1)) = none := ls_n.mpr (fun i hi => e3 i (by rw [pS, Nat.mul_comm] at hi; exact hi))
          rw [nn1]
          exact ⟨rfl, e1, e2, fun r hr => by cases hr⟩
    refine je_iload1 (pc := 0) d10002_0 rfl ?_
    refine je_iload2 (pc := 1) d10002_1 rfl ?_
    refine jn_icge (pc := 2) (a := (g)) (b := (g + (rem + 1))) 10 d10002_2 (by decide) (by omega) (by omega) (fun c2 => by exfalso; omega) (fun c2 => ?_)
    refine je_iload1 (pc := 5) d10002_5 rfl ?_
    refine je_iconst (pc := 6) (v := 3) d10002_6 rfl ?_
    refine jn_iclt (pc := 7) (a := (g)) (b := 3) 27 d10002_7 (by decide) (by omega) (by omega) (fun c7 => ?_) (fun c7 => by exfalso; omega)
    refine je_iload3 (pc := 27) d10002_27 rfl ?_
    refine je_iload2 (pc := 28) d10002_28 rfl ?_
    refine je_iload1 (pc := 29) d10002_29 rfl ?_
    refine je_isub (pc := 30) d10002_30 ?_
    refine ju_eqi (v := nI ((g + (rem + 1)) - (g))) (pk_sub (a := (g + (rem + 1))) (b := (g)) (by omega)) ?_
    refine jn_icge (pc := 31) (a := (q)) (b := ((g + (rem + 1)) - (g))) 62 d10002_31 (by decide) (by omega) (by omega) (fun c31 => ?_) (fun c31 => ?_)
    · exact key h fC.rf (fun _ _ => rfl) (fun i hi => rw_m hi (by omega))
    · refine je_aload0 (pc := 34) d10002_34 rfl ?_
      refine ju_getr (pc := 35) (b := 81) d10002_35 jF_10_17 rfl (sK79 H) (sR79_2 H) ?_
      refine je_iload1 (pc := 38) d10002_38 rfl ?_
      refine je_iconst (pc := 39) (v := -1) d10002_39 rfl ?_
      refine ju_iast (pc := 40) (jn := (g)) d10002_40 (sK81 H) (vp_in_nI (by omega) (by decide)) (nI_clamp (by omega)) ?_
      refine je_aload0 (pc := 41) d10002_41 rfl ?_
      refine je_iload1 (pc := 42) d10002_42 rfl ?_
      refine je_iconst (pc := 43) (v := 0) d10002_43 rfl ?_
      refine je_iconst (pc := 44) (v := 0) d10002_44 rfl ?_
      refine ju_callv (pc := 45) (as := [_, _, _]) d10002_45 jL_10_46 jM_Co_goOn rfl (by decide) (sK79 H.wI) rfl (by exact Nat.le_of_ble_eq_true rfl) (t_Co_goOn (d + rem + 1) (k := g) (m := 0) H.wI (C.fr ((fC.rf (A := fun b => b = 81)).wI rfl) (fun b hb => olA (by omega))) wS h0 (by omega) (hL.of (fun b h1 h2 => wI_ne _ _ _ (by omega))) hN (by omega) (by decide) _) (fun r45 h45 q45 => ?_)
      obtain ⟨rfl, f1, f2⟩ := q45
      have H2 := f1.St H.wI
      have g1 : fC (fun b => b = 65 ∨ b = 81 ∨ 82 + 5 * (g + 1) ≤ b ∧ b ≤ 106) h h45 := ((fC.rf (A := fun b => b = 65 ∨ b = 81 ∨ 82 + 5 * (g + 1) ≤ b ∧ b ≤ 106)).wI (by omega)).tr (f1.mo (fun b hb => by omega))
      have es : stL S R L 0 = nxF S R (mvL 0 0 L) := by rw [mv_id (wl.1 0 (by decide)).1]; rfl
      rw [← es] at f2
      refine je_aload0 (pc := 48) d10002_48 rfl ?_
      refine je_iload1 (pc := 49) d10002_49 rfl ?_
      refine je_iconst (pc := 50) (v := 1) d10002_50 rfl ?_
      refine je_iadd (pc := 51) d10002_51 ?_
      refine ju_eqi (v := nI ((g) + 1)) (nI_add (g) 1) ?_
      refine je_iload2 (pc := 52) d10002_52 rfl ?_
      refine je_iload3 (pc := 53) d10002_53 rfl ?_
      refine ju_callv (pc := 54) (as := [_, _, _]) d10002_54 jL_10_30 jM_Co_findRow rfl (by decide) (sK79 H2) rfl (by exact Nat.le_of_ble_eq_true rfl) (by have := ih d (h := h45) (L := stL S R L 0) (nn := nn + 1) (nl := nl + 1) (g := g + 1) (q := q) (bc := 0) (bs := 0) H2 (C.fr g1 (fun b hb => olA (by omega))) (by omega) (by omega) f2 (st_n hN) (by omega) (wfL.st wS hmi (by omega) wl) (by omega); rw [show g + 1 + rem = g + (rem + 1) by omega] at this; exact this) (fun r54 h54 q54 => ?_)
      obtain ⟨rfl, f3, f4, f5⟩ := q54
      refine jb_ifeq (pc := 57) 62 d10002_57 (by decide) (fun c57 => ?_) (fun c57 => ?_)
      · have nn2 : lsF (rwP S R rem (stL S R L 0) q) ((2 * S.1.1 + 1) ^ rem) = none := by
          cases z2 : lsF (rwP S R rem (stL S R L 0) q) ((2 * S.1.1 + 1) ^ rem) with
          | none => rfl
          | some r => exact absurd (by rw [z2]; rfl) c57
        exact key _ (g1.tr (f3.mo (fun b hb => by omega))) (fun j hj => by rw [f4 j (by omega), f1.2 81 (by omega), wI_at, jx_up_ne _ _ (by omega)]) (fun i hi => by rw [rw_0 hi]; exact ls_n.mp nn2 i hi)
      · refine je_iconst (pc := 60) (v := 1) d10002_60 rfl ?_
        refine je_zret (pc := 61) d10002_61 rfl (Or.inr rfl) ?_
        obtain ⟨r, er⟩ := Option.isSome_iff_exists.mp c57
        obtain ⟨s1, s2, s3⟩ := ls_s.mp er
        have el : lsF (rwP S R (rem + 1) L q) ((2 * S.1.1 + 1) ^ (rem + 1)) = some r := by
          refine ls_s.mpr ⟨Nat.lt_of_lt_of_le s1 (Nat.pow_le_pow_right (by omega) (by omega)), ?_, fun i hi => ?_⟩
          · rw [rw_0 s1]; exact s2
          · rw [rw_0 (by omega)]; exact s3 i hi
        rw [el]
        refine ⟨rfl, g1.tr (f3.mo (fun b hb => by omega)), fun j hj => ?_, fun r' hr' j hj => ?_⟩
        · rw [f4 j (by omega), f1.2 81 (by omega), wI_at, jx_up_ne _ _ (by omega)]
        · cases hr'
          by_cases z : j = 0
          · subst z
            rw [f4 (g + 0) (by omega), f1.2 81 (by omega), wI_at, Nat.add_zero, jx_up_self]
            rw [show rem + 1 - 0 = rem + 1 by omega, show rem + 1 - 1 = rem by omega, Nat.mod_eq_of_lt (ls_s.mp el).1, Nat.div_eq_of_lt s1]
            rfl
          · have := f5 r er (j - 1) (by omega)
            rw [show g + 1 + (j - 1) = g + j by omega, show rem - (j - 1) = rem + 1 - j by omega] at this
            exact this
