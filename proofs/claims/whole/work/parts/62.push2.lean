/-! push -/
/-- the fewest pushes, and the first row of these -/
def PB (S : MS) (R : Option MR) (n : Nat) (L : ML) : Option (Nat × Nat) → Prop
  | none => ∀ r, r < (2 * S.1.1 + 1) ^ n → gpF S R n L r = false
  | some (q, r) => (r < (2 * S.1.1 + 1) ^ n ∧ gpF S R n L r = true ∧ cnD (2 * S.1.1 + 1) n r = q) ∧ (∀ i, i < (2 * S.1.1 + 1) ^ n → gpF S R n L i = true → q ≤ cnD (2 * S.1.1 + 1) n i) ∧ ∀ i, i < r → gpF S R n L i = true → q < cnD (2 * S.1.1 + 1) n i
theorem PB.u {S : MS} {R : Option MR} {n : Nat} {L : ML} : ∀ {o o' : Option (Nat × Nat)}, PB S R n L o → PB S R n L o' → o = o'
  | none, none, _, _ => rfl
  | none, some (q, r), a, b => by have := a r b.1.1; rw [b.1.2.1] at this; cases this
  | some (q, r), none, a, b => by have := b r a.1.1; rw [a.1.2.1] at this; cases this
  | some (q, r), some (q', r'), a, b => by
    obtain ⟨⟨a1, a2, a3⟩, a4, a5⟩ := a
    obtain ⟨⟨b1, b2, b3⟩, b4, b5⟩ := b
    have h1 := a4 r' b1 b2
    have h2 := b4 r a1 a2
    have e : r = r' := by
      rcases Nat.lt_trichotomy r r' with c | c | c
      · have := b5 r c a2; omega
      · exact c
      · have := a5 r' c b2; omega
    subst e
    rw [show q = q' by omega]
theorem PB.ls {S : MS} {R : Option MR} {n k r : Nat} {L : ML} (h1 : ∀ q, q < k → lsF (rwP S R n L q) ((2 * S.1.1 + 1) ^ n) = none) (h2 : lsF (rwP S R n L k) ((2 * S.1.1 + 1) ^ n) = some r) : PB S R n L (some (k, r)) := by
  obtain ⟨s1, s2, s3⟩ := ls_s.mp h2
  unfold rwP at s2
  rw [Bool.and_eq_true, decide_eq_true_eq] at s2
  have key : ∀ i, i < (2 * S.1.1 + 1) ^ n → gpF S R n L i = true → k ≤ cnD (2 * S.1.1 + 1) n i := fun i hi g => Nat.le_of_not_lt (fun c => by
    have := ls_n.mp (h1 _ c) i hi
    unfold rwP at this
    rw [g, decide_eq_true rfl] at this
    cases this)
  refine ⟨⟨s1, s2.1, s2.2⟩, key, fun i hi g => ?_⟩
  have h3 := key i (by omega) g
  have h4 := s3 i hi
  unfold rwP at h4
  rw [g, Bool.true_and] at h4
  have : ¬ cnD (2 * S.1.1 + 1) n i = k := of_decide_eq_false h4
  omega
theorem PB.no {S : MS} {R : Option MR} {n : Nat} {L : ML} (h1 : ∀ q, q < n + 1 → lsF (rwP S R n L q) ((2 * S.1.1 + 1) ^ n) = none) : PB S R n L none := fun r hr => by
  have := ls_n.mp (h1 (cnD (2 * S.1.1 + 1) n r) (by have := cnD_le (2 * S.1.1 + 1) n r; omega)) r hr
  unfold rwP at this
  rw [decide_eq_true rfl, Bool.and_true] at this
  exact this
def pvI : Option (Nat × Nat) → Int32
  | none => -1
  | some x => nI x.1
set_option maxHeartbeats 4000000 in
theorem t_Co_fewestPushes (d : Nat) {bc bs : Nat} {h : jx_H} {S : MS} {R : Option MR} {L : ML} {nn : Nat} (H : jx_St h) (C : cLaw h S R) (wS : wfS S) (h0 : 0 < S.1.1) (hL : rL h.2.1 40 L) (hN : L.2.2.2.2.2 = nI nn) {n nl : Nat} {o : Option (Nat × Nat)} (hmi : S.1.1 ≤ 10) (h3 : n ≤ 3) (hnn : nn + n < 998) (wl : wfL nl S.1.1 S.1.2.1 L) (hnl : nl + n < 2000) (ho : PB S R n L o) : jx_Tr (d + 10) bc bs 10001 [.ref 79, .ref 40, .int (nI n)] h (fun r h' => r = some (.int (pvI o)) ∧ fC (fun b => b = 65 ∨ 81 ≤ b ∧ b ≤ 106) h h' ∧ ∀ q r, o = some (q, r) → ∀ k, k < n → h'.2.1 81 k = nI (r % (2 * S.1.1 + 1) ^ (n - k) / (2 * S.1.1 + 1) ^ (n - k - 1)) - 1) := by
  refine jx_tr jM_Co_fewestPushes rfl rfl (lv := [some (.ref 79), some (.ref 40), some (.int (nI n)), none]) rfl ?_
  refine je_aload0 (pc := 0) d10001_0 rfl ?_
  refine ju_getr (pc := 1) (b := 80) d10001_1 jF_10_11 rfl (sK79 H) (sR79_1 H) ?_
  refine je_iconst (pc := 4) (v := 0) d10001_4 rfl ?_
  refine je_aald (pc := 5) d10001_5 (by decide) (sK80 H) (vp_in_nI (n := 0) (by decide) (by decide)) (v := .ref (82 + 5 * 0)) (r80 H (k := 0) (by decide)) ?_
  refine je_aload1 (pc := 6) d10001_6 rfl ?_
  refine ju_callv (pc := 7) (as := [_]) d10001_7 jL_10_26 jM_La_copyFrom rfl (by decide) (lA_La H (ln_A (by omega))).1 rfl (by exact Nat.le_of_ble_eq_true rfl) (t_La_copyFrom (d + 7) (a := 82 + 5 * 0) (b := 40) (lA_La H (ln_A (by decide))) (sL40 H) (by decide)) (fun r7 h7 q7 => ?_)
  obtain ⟨rfl, f1, f2⟩ := q7
  have H0 := f1.St H
  have L0 := f2 L hL
  refine je_iconst (pc := 10) (v := 0) d10001_10 rfl ?_
  refine ju_istore3 (pc := 11) (lv' := [some _, some _, some _, some _]) d10001_11 rfl rfl ?_
  refine je_loop (σ := Unit) (n + 1) (fun k xx => [some (.ref 79), some (.ref 40), some (.int (nI n)), some (.int (nI k))]) (fun k _ h' => fC (fun b => b = 65 ∨ 81 ≤ b ∧ b ≤ 106) h h' ∧ rL h'.2.1 (82 + 5 * 0) L ∧ ∀ q, q < k → lsF (rwP S R n L q) ((2 * S.1.1 + 1) ^ n) = none) (fun k xx h' hk e kk => ?_) (fun xx h' e => ?_) (0) () h7 (by omega) ⟨f1.mo (fun b hb => by omega), L0, fun q hq => absurd hq (Nat.not_lt_zero q)⟩
  · obtain ⟨e1, e2, e3⟩ := e
    have H1 := e1.St H
    have C1 := C.fr e1 (fun b hb => olA (by omega))
    refine je_iload3 (pc := 12) d10001_12 rfl ?_
    refine je_iload2 (pc := 13) d10001_13 rfl ?_
    refine jn_icgt (pc := 14) (a := (k)) (b := (n)) 35 d10001_14 (by decide) (by omega) (by omega) (fun c14 => by exfalso; omega) (fun c14 => ?_)
    refine je_aload0 (pc := 17) d10001_17 rfl ?_
    refine je_iconst (pc := 18) (v := 0) d10001_18 rfl ?_
    refine je_iload2 (pc := 19) d10001_19 rfl ?_
    refine je_iload3 (pc := 20) d10001_20 rfl ?_
    refine ju_callv (pc := 21) (as := [_, _, _]) d10001_21 jL_10_30 jM_Co_findRow rfl (by decide) (sK79 H1) rfl (by exact Nat.le_of_ble_eq_true rfl) (by have := co_find (S := S) (R := R) wS h0 hmi n (d + (3 - n)) (bc := 0) (bs := 0) (h := h') (L := L) (nn := nn) (nl := nl) (g := 0) (q := k) H1 C1 (by omega) (by omega) e2 hN hnn wl hnl; rw [show d + (3 - n) + n + 6 = d + 9 by omega, Nat.zero_add] at this; exact this) (fun r21 h21 q21 => ?_)
    obtain ⟨rfl, g1, g2, g3⟩ := q21
    refine jb_ifeq (pc := 24) 29 d10001_24 (by decide) (fun c24 => ?_) (fun c24 => ?_)
    · refine ju_incN (pc := 29) (v := nI ((k) + 1)) (lv' := [some _, some _, some _, some _]) d10001_29 rfl (nI_1 (k)) rfl ?_
      refine je_goto (pc := 32) 12 d10001_32 (by decide) ?_
      refine kk () _ ⟨e1.tr (g1.mo (fun b hb => by omega)), e2.of (fun b h1 h2 => g1.2 b (by omega)), fun q hq => ?_⟩
      by_cases z : q = k
      · subst z
        cases z2 : lsF (rwP S R n L q) ((2 * S.1.1 + 1) ^ n) with
        | none => rfl
        | some r => exact absurd (by rw [z2]; rfl) c24
      · exact e3 q (by omega)
    · refine je_iload3 (pc := 27) d10001_27 rfl ?_
      refine je_iret (pc := 28) d10001_28 rfl ?_
      obtain ⟨r, er⟩ := Option.isSome_iff_exists.mp c24
      obtain rfl := ho.u (PB.ls e3 er)
      refine ⟨rfl, e1.tr (g1.mo (fun b hb => by omega)), fun q' r' hq j hj => ?_⟩
      cases hq
      have := g3 r er j hj
      rw [Nat.zero_add] at this
      exact this
  · obtain ⟨e1, e2, e3⟩ := e
    have H1 := e1.St H
    have C1 := C.fr e1 (fun b hb => olA (by omega))
    refine je_iload3 (pc := 12) d10001_12 rfl ?_
    refine je_iload2 (pc := 13) d10001_13 rfl ?_
    refine jn_icgt (pc := 14) (a := ((n + 1))) (b := (n)) 35 d10001_14 (by decide) (by omega) (by omega) (fun c14 => ?_) (fun c14 => by exfalso; omega)
    refine je_iconst (pc := 35) (v := -1) d10001_35 rfl ?_
    refine je_iret (pc := 36) d10001_36 rfl ?_
    obtain rfl := ho.u (PB.no e3)
    exact ⟨rfl, e1, fun q r hq => by cases hq⟩
set_option maxHeartbeats 2000000 in
theorem t_Db_push_n (d : Nat) {bc bs : Nat} {h : jx_H} {s : Nat} (H : jx_St h) (hr : h.2.2.2 26 0 = some s) (P : jx_Sp h s) (x y : Int32) (G : ¬ (0 < h.2.1 s 0 ∧ ¬ x < 1 ∧ ¬ 3 < x ∧ ¬ y < 0 ∧ ¬ 3 < y)) : jx_Tr (d + 11) bc bs 27 [.ref 1, .int x, .int y] h (fun r h' => r = some (.int (-3)) ∧ h' = h) := by
  refine jx_tr jM_Db_push rfl rfl (lv := [some (.ref 1), some (.int x), some (.int y), none]) rfl ?_
  refine je_aload0 (pc := 0) d27_0 rfl ?_
  refine ju_callv (pc := 1) (as := []) d27_1 jL_0_169 jM_Db_hasStrip rfl (by decide) (sK1 H) rfl (by exact Nat.le_of_ble_eq_true rfl) (t_Db_hasStrip (d + 9) H hr P) (fun r1 h1 q1 => ?_)
  obtain ⟨rfl, e1⟩ := q1
  obtain rfl := e1.symm
  refine jb_ifeq (pc := 4) 26 d27_4 (by decide) (fun c4 => ?_) (fun c4 => ?_)
  · refine je_bipush (pc := 26) (v := -3) d27_26 rfl ?_
    refine je_iret (pc := 28) d27_28 rfl ?_
    exact ⟨rfl, rfl⟩
  · refine je_iload1 (pc := 7) d27_7 rfl ?_
    refine je_iconst (pc := 8) (v := 1) d27_8 rfl ?_
    refine je_iclt (pc := 9) 26 d27_9 (by decide) (fun c9 => ?_) (fun c9 => ?_)
    · refine je_bipush (pc := 26) (v := -3) d27_26 rfl ?_
      refine je_iret (pc := 28) d27_28 rfl ?_
      exact ⟨rfl, rfl⟩
    · refine je_iload1 (pc := 12) d27_12 rfl ?_
      refine je_iconst (pc := 13) (v := 3) d27_13 rfl ?_
      refine je_icgt (pc := 14) 26 d27_14 (by decide) (fun c14 => ?_) (fun c14 => ?_)
      · refine je_bipush (pc := 26) (v := -3) d27_26 rfl ?_
        refine je_iret (pc := 28) d27_28 rfl ?_
        exact ⟨rfl, rfl⟩
      · refine je_iload2 (pc := 17) d27_17 rfl ?_
        refine je_iflt (pc := 18) 26 d27_18 (by decide) (fun c18 => ?_) (fun c18 => ?_)
        · refine je_bipush (pc := 26) (v := -3) d27_26 rfl ?_
          refine je_iret (pc := 28) d27_28 rfl ?_
          exact ⟨rfl, rfl⟩
        · refine je_iload2 (pc := 21) d27_21 rfl ?_
          refine je_iconst (pc := 22) (v := 3) d27_22 rfl ?_
          refine ju_icle (pc := 23) 29 d27_23 (by decide) (fun c23 => absurd c23 (fun q => G ⟨c4, c9, c14, c18, q⟩)) (fun c23 => ?_)
          refine je_bipush (pc := 26) (v := -3) d27_26 rfl ?_
          refine je_iret (pc := 28) d27_28 rfl ?_
          exact ⟨rfl, rfl⟩
def psV (S : MS) (n y : Nat) : Option (Nat × Nat) → Int32
  | none => -2
  | some (q, r) => if y = 0 then nI q else if n < y then -2 else nI (r % (2 * S.1.1 + 1) ^ (n - (y - 1)) / (2 * S.1.1 + 1) ^ (n - (y - 1) - 1)) - 1
theorem psV_gt {S : MS} {n y : Nat} (h : n < y) (h0 : ¬ y = 0) (o : Option (Nat × Nat)) : psV S n y o = -2 := by
  match o with
  | none => rfl
  | some (q, r) => show (if y = 0 then nI q else if n < y then (-2 : Int32) else _) = -2; rw [if_neg h0, if_pos h]
set_option maxHeartbeats 2000000 in
theorem t_Db_push (d : Nat) {bc bs : Nat} {h : jx_H} {S : MS} {R : Option MR} {L : ML} {nn : Nat} (H : jx_St h) (C : cLaw h S R) (wS : wfS S) (h0 : 0 < S.1.1) (hL : rL h.2.1 40 L) (hN : L.2.2.2.2.2 = nI nn) {s : Nat} (hr : h.2.2.2 26 0 = some s) (P : jx_Sp h s) (hS : rS h.2.1 s S) {n y nl : Nat} {o : Option (Nat × Nat)} (hmi : S.1.1 ≤ 10) (h1 : 1 ≤ n) (h3 : n ≤ 3) (hy : y ≤ 3) (hnn : nn + n < 998) (wl : wfL nl S.1.1 S.1.2.1 L) (hnl : nl + n < 2000) (ho : PB S R n L o) : jx_Tr (d + 11) bc bs 27 [.ref 1, .int (nI n), .int (nI y)] h (fun r h' => r = some (.int (psV S n y o)) ∧ fC (fun b => b = 65 ∨ 81 ≤ b ∧ b ≤ 106) h h') := by
  refine jx_tr jM_Db_push rfl rfl (lv := [some (.ref 1), some (.int (nI n)), some (.int (nI y)), none]) rfl ?_
  refine je_aload0 (pc := 0) d27_0 rfl ?_
  refine ju_callv (pc := 1) (as := []) d27_1 jL_0_169 jM_Db_hasStrip rfl (by decide) (sK1 H) rfl (by exact Nat.le_of_ble_eq_true rfl) (t_Db_hasStrip (d + 9) H hr P) (fun r1 h1 q1 => ?_)
  obtain ⟨rfl, e1⟩ := q1
  obtain rfl := e1.symm
  refine jb_ifeq (pc := 4) 26 d27_4 (by decide) (fun c4 => absurd c4 (fun q => q (by rw [hS.1.1]; exact nI_lt (a := 0) h0 (by omega)))) (fun c4 => ?_)
  refine je_iload1 (pc := 7) d27_7 rfl ?_
  refine je_iconst (pc := 8) (v := 1) d27_8 rfl ?_
  refine jn_iclt (pc := 9) (a := (n)) (b := 1) 26 d27_9 (by decide) (by omega) (by omega) (fun c9 => by exfalso; omega) (fun c9 => ?_)
  refine je_iload1 (pc := 12) d27_12 rfl ?_
  refine je_iconst (pc := 13) (v := 3) d27_13 rfl ?_
  refine jn_icgt (pc := 14) (a := (n)) (b := 3) 26 d27_14 (by decide) (by omega) (by omega) (fun c14 => by exfalso; omega) (fun c14 => ?_)
  refine je_iload2 (pc := 17) d27_17 rfl ?_
  refine jn_iflt (pc := 18) (a := (y)) 26 d27_18 (by decide) (by omega) (fun c18 => by exfalso; omega) (fun c18 => ?_)
  refine je_iload2 (pc := 21) d27_21 rfl ?_
  refine je_iconst (pc := 22) (v := 3) d27_22 rfl ?_
  refine jn_icle (pc := 23) (a := (y)) (b := 3) 29 d27_23 (by decide) (by omega) (by omega) (fun c23 => ?_) (fun c23 => by exfalso; omega)
  refine je_iload2 (pc := 29) d27_29 rfl ?_
  refine je_iload1 (pc := 30) d27_30 rfl ?_
  refine jn_icle (pc := 31) (a := (y)) (b := (n)) 37 d27_31 (by decide) (by omega) (by omega) (fun c31 => ?_) (fun c31 => ?_)
  · refine je_aload0 (pc := 37) d27_37 rfl ?_
    refine ju_getr (pc := 38) (b := 79) d27_38 jF_0_72 rfl (sK1 H) (sR1_10 H) ?_
    refine je_aload0 (pc := 41) d27_41 rfl ?_
    refine ju_getr (pc := 42) (b := 26) d27_42 jF_0_41 rfl (sK1 H) (sR1_5 H) ?_
    refine ju_getr (pc := 45) (b := 40) d27_45 jF_0_124 rfl (sK26 H) (sR26_1 H) ?_
    refine je_iload1 (pc := 48) d27_48 rfl ?_
    refine ju_callv (pc := 49) (as := [_, _]) d27_49 jL_0_236 jM_Co_fewestPushes rfl (by decide) (sK79 H) rfl (by exact Nat.le_of_ble_eq_true rfl) (t_Co_fewestPushes d H C wS h0 hL hN hmi h3 hnn wl hnl ho) (fun r49 h49 q49 => ?_)
    obtain ⟨rfl, f1, f2⟩ := q49
    have H2 := f1.St H
    refine ju_istore3 (pc := 52) (lv' := [some _, some _, some _, some _]) d27_52 rfl rfl ?_
    refine je_iload3 (pc := 53) d27_53 rfl ?_
    refine je_iconst (pc := 54) (v := -1) d27_54 rfl ?_
    refine je_icne (pc := 55) 61 d27_55 (by decide) (fun c55 => ?_) (fun c55 => ?_)
    · refine je_iload2 (pc := 61) d27_61 rfl ?_
      refine jn_ifne (pc := 62) (a := (y)) 69 d27_62 (by decide) (by omega) (fun c62 => ?_) (fun c62 => ?_)
      · refine je_aload0 (pc := 69) d27_69 rfl ?_
        refine ju_getr (pc := 70) (b := 79) d27_70 jF_0_72 rfl (sK1 H2) (sR1_10 H2) ?_
        refine ju_getr (pc := 73) (b := 81) d27_73 jF_0_239 rfl (sK79 H2) (sR79_2 H2) ?_
        refine je_iload2 (pc := 76) d27_76 rfl ?_
        refine je_iconst (pc := 77) (v := 1) d27_77 rfl ?_
        refine je_isub (pc := 78) d27_78 ?_
        refine ju_eqi (v := nI ((y) - 1)) (pk_sub (a := (y)) (b := 1) (by omega)) ?_
        refine ju_iald (pc := 79) (jn := ((y) - 1)) d27_79 (sK81 H2) (vp_in_nI (by omega) (by decide)) (nI_clamp (by omega)) ?_
        refine je_iret (pc := 80) d27_80 rfl ?_
        match o, c55, f2 with
        | none, c, _ => exact absurd rfl c
        | some (q, r), _, f2 => exact ⟨by show _ = some (Value.int (if y = 0 then nI q else if n < y then (-2 : Int32) else _)); rw [if_neg c62, if_neg (by omega), f2 q r rfl (y - 1) (by omega)], f1⟩
      · refine je_iload3 (pc := 65) d27_65 rfl ?_
        refine je_goto (pc := 66) 80 d27_66 (by decide) ?_
        refine je_iret (pc := 80) d27_80 rfl ?_
        match o, c55 with
        | none, c => exact absurd rfl c
        | some (q, r), _ => exact ⟨by show some (Value.int (nI q)) = some (.int (if y = 0 then nI q else _)); rw [if_pos c62], f1⟩
    · refine je_bipush (pc := 58) (v := -2) d27_58 rfl ?_
      refine je_iret (pc := 60) d27_60 rfl ?_
      match o, c55, ho with
      | none, _, _ => exact ⟨rfl, f1⟩
      | some (q, r), c, ho => exact absurd c (fun z => nI_pos (n := q) (by have := cnD_le (2 * S.1.1 + 1) n r; have := ho.1.2.2; omega) (show nI q < 0 by rw [show nI q = -1 from z]; decide))
  · refine je_bipush (pc := 34) (v := -2) d27_34 rfl ?_
    refine je_iret (pc := 36) d27_36 rfl ?_
    exact ⟨by rw [psV_gt c31 (by omega)], fC.rf⟩
set_option maxHeartbeats 2000000 in
theorem t_Mo_areWantsSo (d : Nat) {bc bs : Nat} {h : jx_H} {S : MS} {l : Nat → Int32} (H : jx_St h) (hS : mSt h.2.1 S) (wS : wfS S) (hl : ∀ m, m < 10 → h.2.1 255 m = l m) : jx_Tr (d + 2) bc bs 12088 [.ref 253] h (fun r h' => r = some (.int (b2 (wnB S l S.1.2.2.1 = true))) ∧ h' = h) := by
  refine jx_tr jM_Mo_areWantsSo rfl rfl (lv := [some (.ref 253), none]) rfl ?_
  have w8 := wS.2.1
  have w9 := wS.2.2.1
  refine je_iconst (pc := 0) (v := 0) d12088_0 rfl ?_
  refine ju_istore1 (pc := 1) (lv' := [some _, some _]) d12088_1 rfl rfl ?_
  refine je_loop (σ := Unit) (S.1.2.2.1) (fun k xx => [some (.ref 253), some (.int (nI k))]) (fun k _ h' => h' = h ∧ wnB S l k = true) (fun k xx h' hk e kk => ?_) (fun xx h' e => ?_) (0) () h (by omega) ⟨rfl, rfl⟩
  · obtain ⟨e0, e1⟩ := e
    obtain rfl := e0.symm
    obtain ⟨⟨v, hv, ev⟩, -⟩ := wS.2.2.2.2.2.2.1 k hk
    obtain ⟨q1, q2⟩ := hS.2.2.2.1 k hk
    refine je_iload1 (pc := 2) d12088_2 rfl ?_
    refine je_aload0 (pc := 3) d12088_3 rfl ?_
    refine ju_getr (pc := 4) (b := 254) d12088_4 jF_12_9 rfl (sK253 H) (sR253_1 H) ?_
    refine je_iconst (pc := 7) (v := 3) d12088_7 rfl ?_
    refine ju_iald (pc := 8) (jn := 3) d12088_8 (sK254 H) (by first | assumption | exact jx_ok_dec (by decide)) (by decide) ?_
    refine ju_eqi (v := nI S.1.2.2.1) hS.1.2.2.2 ?_
    refine jn_icge (pc := 9) (a := (k)) (b := (S.1.2.2.1)) 39 d12088_9 (by decide) (by omega) (by omega) (fun c9 => by exfalso; omega) (fun c9 => ?_)
    refine je_aload0 (pc := 12) d12088_12 rfl ?_
    refine je_aload0 (pc := 13) d12088_13 rfl ?_
    refine ju_getr (pc := 14) (b := 263) d12088_14 jF_12_37 rfl (sK253 H) (sR253_10 H) ?_
    refine je_iload1 (pc := 17) d12088_17 rfl ?_
    refine ju_iald (pc := 18) (jn := (k)) d12088_18 (sK263 H) (vp_in_nI (by omega) (by decide)) (nI_clamp (by omega)) ?_
    refine ju_eqi (v := nI v) (q1.trans ev) ?_
    refine ju_callv (pc := 19) (as := [_]) d12088_19 jL_12_394 jM_Mo_sideOf rfl (by decide) (sK253 H) rfl (by exact Nat.le_of_ble_eq_true rfl) (mo_side d (l := l) H hS wS hl hv) (fun r19 h19 q19 => ?_)
    obtain ⟨rfl, e19⟩ := q19
    obtain rfl := e19.symm
    refine ju_eqi (v := sdM S l (S.2.1.2.2.2.2.1 k).toNatClampNeg) (by rw [ev, nI_clamp (by omega)]) ?_
    refine je_aload0 (pc := 22) d12088_22 rfl ?_
    refine ju_getr (pc := 23) (b := 264) d12088_23 jF_12_40 rfl (sK253 H) (sR253_11 H) ?_
    refine je_iload1 (pc := 26) d12088_26 rfl ?_
    refine ju_iald (pc := 27) (jn := (k)) d12088_27 (sK264 H) (vp_in_nI (by omega) (by decide)) (nI_clamp (by omega)) ?_
    refine ju_eqi (v := S.2.1.2.2.2.2.2 k) q2 ?_
    refine je_iceq (pc := 28) 33 d12088_28 (by decide) (fun c28 => ?_) (fun c28 => ?_)
    · refine ju_incN (pc := 33) (v := nI ((k) + 1)) (lv' := [some _, some _]) d12088_33 rfl (nI_1 (k)) rfl ?_
      refine je_goto (pc := 36) 2 d12088_36 (by decide) ?_
      exact kk () _ ⟨rfl, by rw [wnB, e1, decide_eq_true c28]; rfl⟩
    · refine je_iconst (pc := 31) (v := 0) d12088_31 rfl ?_
      refine je_zret (pc := 32) d12088_32 rfl (Or.inl rfl) ?_
      exact ⟨by rw [b2_f (fun q => c28 (wn_all q k hk))], rfl⟩
  · obtain ⟨e0, e1⟩ := e
    obtain rfl := e0.symm
    refine je_iload1 (pc := 2) d12088_2 rfl ?_
    refine je_aload0 (pc := 3) d12088_3 rfl ?_
    refine ju_getr (pc := 4) (b := 254) d12088_4 jF_12_9 rfl (sK253 H) (sR253_1 H) ?_
    refine je_iconst (pc := 7) (v := 3) d12088_7 rfl ?_
    refine ju_iald (pc := 8) (jn := 3) d12088_8 (sK254 H) (by first | assumption | exact jx_ok_dec (by decide)) (by decide) ?_
    refine ju_eqi (v := nI S.1.2.2.1) hS.1.2.2.2 ?_
    refine jn_icge (pc := 9) (a := ((S.1.2.2.1))) (b := (S.1.2.2.1)) 39 d12088_9 (by decide) (by omega) (by omega) (fun c9 => ?_) (fun c9 => by exfalso; omega)
    refine je_iconst (pc := 39) (v := 1) d12088_39 rfl ?_
    refine je_zret (pc := 40) d12088_40 rfl (Or.inr rfl) ?_
    exact ⟨by rw [b2_t e1], rfl⟩
def chV : Nat → Int32
  | 0 => -1
  | e + 1 => nI e
theorem chV_s (e : Nat) : chV (e + 1) = nI e := rfl
theorem chV_0 {c : Nat} (h : c < 2 ^ 31) : chV c = -1 ↔ c = 0 := by
  match c with
  | 0 => exact ⟨fun _ => rfl, fun _ => rfl⟩
  | e + 1 => exact ⟨fun z => absurd z (fun y => nI_pos (n := e) (by omega) (show nI e < 0 by rw [show nI e = -1 from y]; decide)), fun z => absurd z (by omega)⟩
theorem chV_p (c : Nat) : nI c - 1 = chV c := by
  match c with
  | 0 => decide
  | e + 1 => exact nI_pred e
theorem pmL_s (e : Nat) (L : ML) : pmL (e + 1) L = mvL (e / 2) (if e % 2 = 1 then 2 else -2) L := by
  unfold pmL
  rw [if_neg (show ¬ e + 1 = 0 by omega), show e + 1 - 1 = e from rfl]
def dgD (o n r k : Nat) : Nat := r % o ^ (n - k) / o ^ (n - (k + 1))
theorem dg_lt {o n r k : Nat} (ho : 0 < o) (hk : k < n) : dgD o n r k < o := by
  unfold dgD
  have h1 : r % o ^ (n - k) < o ^ (n - k) := Nat.mod_lt _ (Nat.pow_pos ho)
  rw [show n - k = (n - (k + 1)) + 1 by omega, Nat.pow_succ] at h1 ⊢
  exact (Nat.div_lt_iff_lt_mul (Nat.pow_pos ho)).mpr (by rw [Nat.mul_comm o]; exact h1)
theorem dg_m {o n r k : Nat} (hk : k < n) : r % o ^ (n - k) % o ^ (n - (k + 1)) = r % o ^ (n - (k + 1)) := Nat.mod_mod_of_dvd _ (Nat.pow_dvd_pow _ (by omega))
theorem dg_q {o n r k : Nat} (hk : k < n) : r / o ^ (n - (k + 1)) % o = dgD o n r k := by
  unfold dgD
  rw [show n - k = (n - (k + 1)) + 1 by omega, Nat.pow_succ, Nat.mod_mul_right_div_self]
theorem gp_s {S : MS} {R : Option MR} {n r k : Nat} {L : ML} (hk : k < n) : gpF S R (n - k) L (r % (2 * S.1.1 + 1) ^ (n - k)) = (decide (okD L (dgD (2 * S.1.1 + 1) n r k)) && gpF S R (n - (k + 1)) (stL S R L (dgD (2 * S.1.1 + 1) n r k)) (r % (2 * S.1.1 + 1) ^ (n - (k + 1)))) := by
  have e := dg_m (o := (2 * S.1.1 + 1)) (n := n) (r := r) hk
  unfold dgD
  rw [← e]
  generalize r % (2 * S.1.1 + 1) ^ (n - k) = x
  rw [show n - k = (n - (k + 1)) + 1 by omega, gpF]
theorem cn_s {o n r k : Nat} (hk : k < n) : cnD o (n - k) (r % o ^ (n - k)) = (if dgD o n r k = 0 then 0 else 1) + cnD o (n - (k + 1)) (r % o ^ (n - (k + 1))) := by
  have e := dg_m (o := o) (n := n) (r := r) hk
  unfold dgD
  rw [← e]
  generalize r % o ^ (n - k) = x
  rw [show n - k = (n - (k + 1)) + 1 by omega, cnD]
set_option maxHeartbeats 8000000 in
theorem t_Mo_pushesBy (d : Nat) {bc bs : Nat} {h : jx_H} {g : jx_H} {S : MS} {R : Option MR} {L : ML} {nn n r : Nat} (H : jx_St g) (C : mLaw g S R) (wS : wfS S) (h0 : 0 < S.1.1) (hmi : S.1.1 ≤ 10) (hN : L.2.2.2.2.2 = nI nn) (k0 : mLk g h L) (h3 : n ≤ 3) (hnn : nn + n < 998) (hr : r < (2 * S.1.1 + 1) ^ n) (hc : ∀ k, k < n → h.2.1 294 k = chV (dgD (2 * S.1.1 + 1) n r k)) : jx_Tr (d + 8) bc bs 12087 [.ref 253, .int (nI n)] h (fun r' h' => r' = some (.int (if gpF S R n L r = true then nI (cnD (2 * S.1.1 + 1) n r) else -1)) ∧ ∃ L', mLk g h' L' ∧ h'.2.1 294 = h.2.1 294 ∧ h'.2.1 295 = h.2.1 295) := by
  refine jx_tr jM_Mo_pushesBy rfl rfl (lv := [some (.ref 253), some (.int (nI n)), none, none, none, none]) rfl ?_
  refine je_iconst (pc := 0) (v := 0) d12087_0 rfl ?_
  refine ju_istore2 (pc := 1) (lv' := [some _, some _, some _, none, none, none]) d12087_1 rfl rfl ?_
  refine je_iconst (pc := 2) (v := 1) d12087_2 rfl ?_
  refine ju_istore3 (pc := 3) (lv' := [some _, some _, some _, some _, none, none]) d12087_3 rfl rfl ?_
  refine je_iconst (pc := 4) (v := 0) d12087_4 rfl ?_
  refine ju_istore (pc := 5) (lv' := [some _, some _, some _, some _, some _, none]) d12087_5 rfl rfl ?_
  refine je_loop (σ := Nat × Int32 × Option Value) (n) (fun k xx => [some (.ref 253), some (.int (nI n)), some (.int (nI xx.1)), some (.int xx.2.1), some (.int (nI k)), xx.2.2]) (fun k xx h' => (∃ L', mLk g h' L' ∧ h'.2.1 294 = h.2.1 294 ∧ h'.2.1 295 = h.2.1 295 ∧ L'.2.2.2.2.2 = nI (nn + k) ∧ ((xx.2.1 = 1 ∧ gpF S R n L r = gpF S R (n - k) L' (r % (2 * S.1.1 + 1) ^ (n - k)) ∧ cnD (2 * S.1.1 + 1) n r = xx.1 + cnD (2 * S.1.1 + 1) (n - k) (r % (2 * S.1.1 + 1) ^ (n - k))) ∨ (xx.2.1 = 0 ∧ gpF S R n L r = false))) ∧ xx.1 ≤ k) (fun k xx h' hk e kk => ?_) (fun xx h' e => ?_) (0) (0, 1, none) h (by omega) ⟨⟨L, k0, rfl, rfl, hN, Or.inl ⟨rfl, by rw [Nat.sub_zero, Nat.mod_eq_of_lt hr], by rw [Nat.sub_zero, Nat.mod_eq_of_lt hr, Nat.zero_add]⟩⟩, Nat.le_refl _⟩
  · obtain ⟨⟨L', e1, e2, e2', e3, e4⟩, e5⟩ := e
    have H1 := e1.St H
    obtain ⟨dg, hdg⟩ : ∃ dg, dg = dgD (2 * S.1.1 + 1) n r k := ⟨_, rfl⟩
    have dl : dg < (2 * S.1.1 + 1) := by rw [hdg]; exact dg_lt (by omega) hk
    have ec : h'.2.1 294 k = chV dg := by rw [e2, hdg]; exact hc k hk
    refine je_iload (pc := 7) d12087_7 rfl ?_
    refine je_iload1 (pc := 9) d12087_9 rfl ?_
    refine jn_icge (pc := 10) (a := (k)) (b := (n)) 85 d12087_10 (by decide) (by omega) (by omega) (fun c10 => by exfalso; omega) (fun c10 => ?_)
    refine je_iload3 (pc := 13) d12087_13 rfl ?_
    refine je_ifeq (pc := 14) 85 d12087_14 (by decide) (fun c14 => ?_) (fun c14 => ?_)
    · refine je_iload3 (pc := 85) d12087_85 rfl ?_
      refine je_ifeq (pc := 86) 100 d12087_86 (by decide) (fun c86 => ?_) (fun c86 => absurd c86 (fun q => q c14))
      refine je_iconst (pc := 100) (v := -1) d12087_100 rfl ?_
      refine je_iret (pc := 101) d12087_101 rfl ?_
      rcases e4 with ⟨a1, a2, a3⟩ | ⟨a1, a2⟩
      · exact absurd (a1.symm.trans c14) (by decide)
      · exact ⟨by rw [a2]; rfl, L', e1, e2, e2'⟩
    · obtain ⟨a1, a2, a3⟩ := e4.resolve_right (fun q => c14 q.1)
      rw [gp_s hk, ← hdg] at a2
      rw [cn_s hk, ← hdg] at a3
      refine je_aload0 (pc := 17) d12087_17 rfl ?_
      refine ju_getr (pc := 18) (b := 294) d12087_18 jF_12_136 rfl (sK253 H1) (sR253_54 H1) ?_
      refine je_iload (pc := 21) d12087_21 rfl ?_
      refine ju_iald (pc := 23) (jn := (k)) d12087_23 (sK294 H1) (vp_in_nI (by omega) (by decide)) (nI_clamp (by omega)) ?_
      refine ju_eqi (v := chV dg) ec ?_
      refine ju_istore (pc := 24) (lv' := [some _, some _, some _, some _, some _, some _]) d12087_24 rfl rfl ?_
      refine je_iload (pc := 26) d12087_26 rfl ?_
      refine je_iconst (pc := 28) (v := -1) d12087_28 rfl ?_
      refine je_iceq (pc := 29) 74 d12087_29 (by decide) (fun c29 => ?_) (fun c29 => ?_)
      · refine je_aload0 (pc := 74) d12087_74 rfl ?_
        refine ju_callv (pc := 75) (as := []) d12087_75 jL_12_439 jM_Mo_goesNight rfl (by decide) (sK253 H1) rfl (by exact Nat.le_of_ble_eq_true rfl) (t_Mo_goesNight d H1 (e1.law C) wS h0 hmi e1.2.2.2 e3 (by omega)) (fun r75 h75 q75 => ?_)
        obtain ⟨rfl, f1, f2⟩ := q75
        refine je_pop (pc := 78) d12087_78 rfl ?_
        refine ju_incN (pc := 79) (v := nI ((k) + 1)) (lv' := [some _, some _, some _, some _, some _, some _]) d12087_79 rfl (nI_1 (k)) rfl ?_
        refine je_goto (pc := 82) 7 d12087_82 (by decide) ?_
        have d0 : dg = 0 := (chV_0 (by omega)).mp c29
        subst d0
        rw [decide_eq_true (Or.inl rfl), Bool.true_and] at a2
        rw [if_pos rfl, Nat.zero_add] at a3
        refine kk (xx.1, xx.2.1, some _) _ ⟨⟨_, e1.N f1 f2, by rw [f1.1.2 294 (by omega)]; exact e2, by rw [f1.1.2 295 (by omega)]; exact e2', ?_, Or.inl ⟨a1, a2, a3⟩⟩, by omega⟩
        show L'.2.2.2.2.2 + 1 = _
        rw [e3, nI_1]
        rfl
      · obtain ⟨e, rfl⟩ : ∃ e, dg = e + 1 := by
          match dg, c29 with
          | 0, c => exact absurd rfl c
          | e + 1, _ => exact ⟨e, rfl⟩
        rw [chV_s]
        refine je_aload0 (pc := 32) d12087_32 rfl ?_
        refine je_iload (pc := 33) d12087_33 rfl ?_
        refine ju_eqi (v := nI e) rfl ?_
        refine je_iconst (pc := 35) (v := 2) d12087_35 rfl ?_
        refine je_idiv (pc := 36) d12087_36 (by decide) ?_
        refine ju_eqi (v := nI (e / 2)) (pk_div (d := 2) (by omega) (by decide) (by decide)) ?_
        refine ju_callv (pc := 37) (as := [_]) d12087_37 jL_12_182 jM_Mo_isBaked rfl (by decide) (sK253 H1) rfl (by exact Nat.le_of_ble_eq_true rfl) (t_Mo_isBaked (d + 5) H1 _) (fun r37 h37 q37 => ?_)
        obtain ⟨rfl, e37⟩ := q37
        obtain rfl := e37.symm
        refine ju_tern1 (pc := 40) (V := b2 (¬ bkd L'.2.2.2.2.1 (nI (e / 2)))) 48 ?_ (fun jn40 => ?_)
        · refine ju_istore3 (pc := 48) (lv' := [some _, some _, some _, some _, some _, some _]) d12087_48 rfl rfl ?_
          refine je_aload0 (pc := 49) d12087_49 rfl ?_
          refine je_iload (pc := 50) d12087_50 rfl ?_
          refine ju_eqi (v := nI e) rfl ?_
          refine je_iconst (pc := 52) (v := 2) d12087_52 rfl ?_
          refine je_idiv (pc := 53) d12087_53 (by decide) ?_
          refine ju_eqi (v := nI (e / 2)) (pk_div (d := 2) (by omega) (by decide) (by decide)) ?_
          refine je_iload (pc := 54) d12087_54 rfl ?_
          refine ju_eqi (v := nI e) rfl ?_
          refine je_iconst (pc := 56) (v := 2) d12087_56 rfl ?_
          refine je_irem (pc := 57) d12087_57 (by decide) ?_
          refine ju_eqi (v := nI (e % 2)) (pk_rem (d := 2) (by omega) (by decide) (by decide)) ?_
          refine je_iconst (pc := 58) (v := 1) d12087_58 rfl ?_
          refine ju_tern2 (pc := 59) (V := (if e % 2 = 1 then 2 else -2)) 68 ?_ (fun jn59 => ?_)
          · refine ju_callv (pc := 68) (as := [_, _]) d12087_68 jL_12_470 jM_Mo_pushes rfl (by decide) (sK253 H1) rfl (by exact Nat.le_of_ble_eq_true rfl) (t_Mo_pushes (d + 5) (m := e / 2) H1 (by omega) _) (fun r68 h68 q68 => ?_)
            obtain ⟨rfl, e68⟩ := q68
            rw [(e1.2.2.2.1 (e / 2) (by omega)).1] at e68
            obtain rfl := e68.symm
            have k2 : mLk g (jx_wI h' 255 (e / 2) (mhold (L'.1 (e / 2) + (if e % 2 = 1 then 2 else -2)) (-20) 20)) (pmL (e + 1) L') := by
              have := e1.fr ((fC.rf (A := fun b => b = 255)).wI (a := 255) (k := e / 2) (v := mhold (L'.1 (e / 2) + (if e % 2 = 1 then 2 else -2)) (-20) 20) rfl) (fun b hb => by omega) (fun j _ => by rw [wI_ne _ _ _ (by decide)]) e1.2.2.2.w1
              rw [pmL_s]
              exact this
            have H2 := k2.St H
            refine ju_incN (pc := 71) (v := nI ((xx.1) + 1)) (lv' := [some _, some _, some _, some _, some _, some _]) d12087_71 rfl (nI_1 (xx.1)) rfl ?_
            refine je_aload0 (pc := 74) d12087_74 rfl ?_
            refine ju_callv (pc := 75) (as := []) d12087_75 jL_12_439 jM_Mo_goesNight rfl (by decide) (sK253 H2) rfl (by exact Nat.le_of_ble_eq_true rfl) (t_Mo_goesNight d H2 (k2.law C) wS h0 hmi k2.2.2.2 (nn := nn + k) ((pm_n (e + 1) L').trans e3) (by omega)) (fun r75 h75 q75 => ?_)
            obtain ⟨rfl, f1, f2⟩ := q75
            refine je_pop (pc := 78) d12087_78 rfl ?_
            refine ju_incN (pc := 79) (v := nI ((k) + 1)) (lv' := [some _, some _, some _, some _, some _, some _]) d12087_79 rfl (nI_1 (k)) rfl ?_
            refine je_goto (pc := 82) 7 d12087_82 (by decide) ?_
            rw [if_neg (by omega)] at a3
            refine kk (xx.1 + 1, _, some _) _ ⟨⟨_, k2.N f1 f2, by rw [f1.1.2 294 (by omega), wI_ne _ _ _ (by decide)]; exact e2, by rw [f1.1.2 295 (by omega), wI_ne _ _ _ (by decide)]; exact e2', st_n e3, ?_⟩, by omega⟩
            by_cases bb : bkd L'.2.2.2.2.1 (nI (e / 2))
            · refine Or.inr ⟨b2_f (fun q => q bb), ?_⟩
              rw [a2, decide_eq_false (fun q => q.elim (fun y => by omega) (fun y => y (by rw [show e + 1 - 1 = e by omega]; exact bb))), Bool.false_and]
            · refine Or.inl ⟨b2_t bb, ?_, by omega⟩
              rw [a2, decide_eq_true (Or.inr (by rw [show e + 1 - 1 = e by omega]; exact bb)), Bool.true_and]
              rfl
          · refine jn_icne (pc := 59) (a := (e % 2)) (b := 1) 66 d12087_59 (by decide) (by omega) (by omega) (fun c59 => ?_) (fun c59 => ?_)
            · refine je_bipush (pc := 66) (v := -2) d12087_66 rfl ?_
              refine ju_eqi (v := (if e % 2 = 1 then 2 else -2)) (by rw [if_neg c59]) ?_
              exact jn59
            · refine je_iconst (pc := 62) (v := 2) d12087_62 rfl ?_
              refine je_goto (pc := 63) 68 d12087_63 (by decide) ?_
              refine ju_eqi (v := (if e % 2 = 1 then 2 else -2)) (by rw [if_pos c59]) ?_
              exact jn59
        · refine jb_ifne (pc := 40) 47 d12087_40 (by decide) (fun c40 => ?_) (fun c40 => ?_)
          · refine je_iconst (pc := 47) (v := 0) d12087_47 rfl ?_
            refine ju_eqi (v := b2 (¬ bkd L'.2.2.2.2.1 (nI (e / 2)))) (b2_f (fun q => q (by rw [e1.2.2.2.2.2.1] at c40; exact c40))).symm ?_
            exact jn40
          · refine je_iconst (pc := 43) (v := 1) d12087_43 rfl ?_
            refine je_goto (pc := 44) 48 d12087_44 (by decide) ?_
            refine ju_eqi (v := b2 (¬ bkd L'.2.2.2.2.1 (nI (e / 2)))) (b2_t (by rw [e1.2.2.2.2.2.1] at c40; exact c40)).symm ?_
            exact jn40
  · obtain ⟨⟨L', e1, e2, e2', e3, e4⟩, e5⟩ := e
    have H1 := e1.St H
    refine je_iload (pc := 7) d12087_7 rfl ?_
    refine je_iload1 (pc := 9) d12087_9 rfl ?_
    refine jn_icge (pc := 10) (a := ((n))) (b := (n)) 85 d12087_10 (by decide) (by omega) (by omega) (fun c10 => ?_) (fun c10 => by exfalso; omega)
    refine je_iload3 (pc := 85) d12087_85 rfl ?_
    refine je_ifeq (pc := 86) 100 d12087_86 (by decide) (fun c86 => ?_) (fun c86 => ?_)
    · refine je_iconst (pc := 100) (v := -1) d12087_100 rfl ?_
      refine je_iret (pc := 101) d12087_101 rfl ?_
      rcases e4 with ⟨a1, a2, a3⟩ | ⟨a1, a2⟩
      · rw [a1] at c86; exact absurd c86 (by decide)
      · exact ⟨by rw [a2]; rfl, L', e1, e2, e2'⟩
    · refine je_aload0 (pc := 89) d12087_89 rfl ?_
      refine ju_callv (pc := 90) (as := []) d12087_90 jL_12_494 jM_Mo_areWantsSo rfl (by decide) (sK253 H1) rfl (by exact Nat.le_of_ble_eq_true rfl) (t_Mo_areWantsSo (d + 5) (l := L'.1) H1 (e1.law C).1 wS (fun m hm => (e1.2.2.2.1 m hm).1)) (fun r90 h90 q90 => ?_)
      obtain ⟨rfl, e90⟩ := q90
      obtain rfl := e90.symm
      refine jb_ifeq (pc := 93) 100 d12087_93 (by decide) (fun c93 => ?_) (fun c93 => ?_)
      · refine je_iconst (pc := 100) (v := -1) d12087_100 rfl ?_
        refine je_iret (pc := 101) d12087_101 rfl ?_
        rcases e4 with ⟨a1, a2, a3⟩ | ⟨a1, a2⟩
        · rw [Nat.sub_self, gpF] at a2
          exact ⟨by rw [a2, Bool.eq_false_iff.mpr c93]; rfl, L', e1, e2, e2'⟩
        · rw [a1] at c86; exact absurd rfl c86
      · refine je_iload2 (pc := 96) d12087_96 rfl ?_
        refine je_goto (pc := 97) 101 d12087_97 (by decide) ?_
        refine je_iret (pc := 101) d12087_101 rfl ?_
        rcases e4 with ⟨a1, a2, a3⟩ | ⟨a1, a2⟩
        · rw [Nat.sub_self, gpF] at a2
          rw [Nat.sub_self, cnD, Nat.add_zero] at a3
          exact ⟨by rw [a2, c93, a3]; rfl, L', e1, e2, e2'⟩
        · rw [a1] at c86; exact absurd rfl c86
