/-! peace -/
def pcV (y : Nat) : Option Nat → Int32
  | none => -2
  | some q => if y = 0 then nI (pop 10 q) else nI q
def psM : Option Nat → Int32
  | none => -2
  | some q => nI q
theorem nI_nm {q : Nat} (h : q < 2 ^ 31) : ¬ nI q = -1 := fun z => nI_pos h (by rw [z]; decide)
theorem nI_nm2 {q : Nat} (h : q < 2 ^ 31) : ¬ nI q = -2 := fun z => nI_pos h (by rw [z]; decide)
theorem bs_lt {vd : Nat → Bool} {k b : Nat} (h : bsF vd k = some b) : b < k := by have := bs_sp vd k; rw [h] at this; exact this.1
theorem bs_stop {vd : Nat → Bool} {a : Nat} : ∀ {b : Nat}, a ≤ b → (∀ q, a ≤ q → q < b → vd q = false) → bsF vd b = bsF vd a
  | 0, h, _ => by rw [show a = 0 by omega]
  | b + 1, h, hv => by
    by_cases c : a = b + 1
    · rw [c]
    · have ih := bs_stop (a := a) (b := b) (by omega) (fun q h1 h2 => hv q h1 (by omega))
      have v := hv b (by omega) (by omega)
      rw [← ih]
      match e : bsF vd b with
      | none => rw [bs_n e, v]; rfl
      | some x => rw [bs_s e, v]; rfl
def frB (mi B : Nat) : Nat := 2 ^ mi - (B + 1)
theorem fr_bit {mi B : Nat} (h : B < 2 ^ mi) (i : Nat) : (frB mi B).testBit i = (decide (i < mi) && !B.testBit i) := Nat.testBit_two_pow_sub_succ h i
theorem fr_i : ∀ mi, mi < 11 → ∀ B, B < 2 ^ mi → (((1 : Int32) <<< (nI mi &&& 31)) - 1) &&& (nI B ^^^ -1) = nI (frB mi B) := by decide +kernel
theorem fr_le {mi B q : Nat} (h : B < 2 ^ mi) (hq : q < 2 ^ mi) (z : q &&& B = 0) : q ≤ frB mi B := by
  have : q &&& frB mi B = q := Nat.eq_of_testBit_eq (fun i => by
    rw [Nat.testBit_and, fr_bit h]
    have y : (q &&& B).testBit i = false := by rw [z, Nat.zero_testBit]
    rw [Nat.testBit_and] at y
    by_cases c : i < mi
    · rw [decide_eq_true c]
      revert y
      cases q.testBit i <;> cases B.testBit i <;> simp
    · rw [Nat.testBit_lt_two_pow (Nat.lt_of_lt_of_le hq (Nat.pow_le_pow_right (by decide) (by omega)))]; rfl)
  rw [← this]
  exact Nat.and_le_right
theorem fr_k {mi B k : Nat} (hm : mi < 11) (h : B < 2 ^ mi) (hk : k < 2 ^ mi) : nI k &&& (nI (frB mi B) ^^^ -1) = nI (k &&& B) := by
  apply Int32.toBitVec_inj.mp
  apply BitVec.eq_of_getLsbD_eq
  intro i hi
  have t : ∀ n : Nat, (nI n).toBitVec = BitVec.ofNat 32 n := fun n => rfl
  have m1 : (-1 : Int32).toBitVec = BitVec.allOnes 32 := rfl
  rw [Int32.toBitVec_and, Int32.toBitVec_xor, t, t, t, m1]
  simp only [BitVec.getLsbD_and, BitVec.getLsbD_xor, BitVec.getLsbD_ofNat, BitVec.getLsbD_allOnes, Nat.testBit_and, fr_bit h, hi, decide_true, Bool.true_and]
  by_cases c : i < mi
  · simp [c]
  · rw [Nat.testBit_lt_two_pow (Nat.lt_of_lt_of_le hk (Nat.pow_le_pow_right (by decide) (by omega)))]; rfl
set_option maxHeartbeats 2000000 in
theorem t_Db_peace_n (d : Nat) {bc bs : Nat} {h : jx_H} {s : Nat} (H : jx_St h) (hr : h.2.2.2 26 0 = some s) (P : jx_Sp h s) (x y : Int32) (G : ¬ (0 < h.2.1 s 0 ∧ ¬ x < 1 ∧ ¬ 60 < x ∧ ¬ y < 0 ∧ ¬ 1 < y)) : jx_Tr (d + 8) bc bs 34 [.ref 1, .int x, .int y] h (fun r h' => r = some (.int (-1)) ∧ h' = h) := by
  refine jx_tr jM_Db_peace rfl rfl (lv := [some (.ref 1), some (.int x), some (.int y), none]) rfl ?_
  refine je_aload0 (pc := 0) d34_0 rfl ?_
  refine ju_callv (pc := 1) (as := []) d34_1 jL_0_169 jM_Db_hasStrip rfl (by decide) (sK1 H) rfl (by exact Nat.le_of_ble_eq_true rfl) (t_Db_hasStrip (d + 6) H hr P) (fun r1 h1 q1 => ?_)
  obtain ⟨rfl, e1⟩ := q1
  obtain rfl := e1.symm
  refine jb_ifeq (pc := 4) 27 d34_4 (by decide) (fun c4 => ?_) (fun c4 => ?_)
  · refine je_iconst (pc := 27) (v := -1) d34_27 rfl ?_
    refine je_iret (pc := 28) d34_28 rfl ?_
    exact ⟨rfl, rfl⟩
  · refine je_iload1 (pc := 7) d34_7 rfl ?_
    refine je_iconst (pc := 8) (v := 1) d34_8 rfl ?_
    refine je_iclt (pc := 9) 27 d34_9 (by decide) (fun c9 => ?_) (fun c9 => ?_)
    · refine je_iconst (pc := 27) (v := -1) d34_27 rfl ?_
      refine je_iret (pc := 28) d34_28 rfl ?_
      exact ⟨rfl, rfl⟩
    · refine je_iload1 (pc := 12) d34_12 rfl ?_
      refine je_bipush (pc := 13) (v := 60) d34_13 rfl ?_
      refine je_icgt (pc := 15) 27 d34_15 (by decide) (fun c15 => ?_) (fun c15 => ?_)
      · refine je_iconst (pc := 27) (v := -1) d34_27 rfl ?_
        refine je_iret (pc := 28) d34_28 rfl ?_
        exact ⟨rfl, rfl⟩
      · refine je_iload2 (pc := 18) d34_18 rfl ?_
        refine je_iflt (pc := 19) 27 d34_19 (by decide) (fun c19 => ?_) (fun c19 => ?_)
        · refine je_iconst (pc := 27) (v := -1) d34_27 rfl ?_
          refine je_iret (pc := 28) d34_28 rfl ?_
          exact ⟨rfl, rfl⟩
        · refine je_iload2 (pc := 22) d34_22 rfl ?_
          refine je_iconst (pc := 23) (v := 1) d34_23 rfl ?_
          refine ju_icle (pc := 24) 29 d34_24 (by decide) (fun c24 => absurd c24 (fun q => G ⟨c4, c9, c15, c19, q⟩)) (fun c24 => ?_)
          refine je_iconst (pc := 27) (v := -1) d34_27 rfl ?_
          refine je_iret (pc := 28) d34_28 rfl ?_
          exact ⟨rfl, rfl⟩
set_option maxHeartbeats 2000000 in
theorem t_Db_peace (d : Nat) {bc bs : Nat} {h : jx_H} {S : MS} {R : Option MR} {L : ML} {nn : Nat} (H : jx_St h) (C : cLaw h S R) (wS : wfS S) (h0 : 0 < S.1.1) (hL : rL h.2.1 40 L) (hN : L.2.2.2.2.2 = nI nn) {B0 n : Nat} (hmi : S.1.1 ≤ 10) (hb : ∀ m, m < 10 → bdI (L.1 m) (-20) 20) (hB0 : B0 < 2 ^ S.1.1) (eB : L.2.2.2.2.1 = nI B0) (hn : n ≤ 60) (hnn : nn + n < 998) {s : Nat} (hr : h.2.2.2 26 0 = some s) (P : jx_Sp h s) (hS : rS h.2.1 s S) {y : Nat} (h1 : 1 ≤ n) (hy : y ≤ 1) : jx_Tr (d + 8) bc bs 34 [.ref 1, .int (nI n), .int (nI y)] h (fun r h' => r = some (.int (pcV y (bsF (vdB S R L n B0) (2 ^ S.1.1)))) ∧ fC (fun b => b = 65 ∨ 68 ≤ b ∧ b ≤ 72 ∨ b = 78) h h') := by
  refine jx_tr jM_Db_peace rfl rfl (lv := [some (.ref 1), some (.int (nI n)), some (.int (nI y)), none]) rfl ?_
  have p10 : 2 ^ S.1.1 ≤ 2 ^ 10 := Nat.pow_le_pow_right (by decide) hmi
  refine je_aload0 (pc := 0) d34_0 rfl ?_
  refine ju_callv (pc := 1) (as := []) d34_1 jL_0_169 jM_Db_hasStrip rfl (by decide) (sK1 H) rfl (by exact Nat.le_of_ble_eq_true rfl) (t_Db_hasStrip (d + 6) H hr P) (fun r1 h1 q1 => ?_)
  obtain ⟨rfl, e1⟩ := q1
  obtain rfl := e1.symm
  refine jb_ifeq (pc := 4) 27 d34_4 (by decide) (fun c4 => absurd c4 (fun q => q (by rw [hS.1.1]; exact nI_lt (a := 0) h0 (by omega)))) (fun c4 => ?_)
  refine je_iload1 (pc := 7) d34_7 rfl ?_
  refine je_iconst (pc := 8) (v := 1) d34_8 rfl ?_
  refine jn_iclt (pc := 9) (a := (n)) (b := 1) 27 d34_9 (by decide) (by omega) (by omega) (fun c9 => by exfalso; omega) (fun c9 => ?_)
  refine je_iload1 (pc := 12) d34_12 rfl ?_
  refine je_bipush (pc := 13) (v := 60) d34_13 rfl ?_
  refine jn_icgt (pc := 15) (a := (n)) (b := 60) 27 d34_15 (by decide) (by omega) (by omega) (fun c15 => by exfalso; omega) (fun c15 => ?_)
  refine je_iload2 (pc := 18) d34_18 rfl ?_
  refine jn_iflt (pc := 19) (a := (y)) 27 d34_19 (by decide) (by omega) (fun c19 => by exfalso; omega) (fun c19 => ?_)
  refine je_iload2 (pc := 22) d34_22 rfl ?_
  refine je_iconst (pc := 23) (v := 1) d34_23 rfl ?_
  refine jn_icle (pc := 24) (a := (y)) (b := 1) 29 d34_24 (by decide) (by omega) (by omega) (fun c24 => ?_) (fun c24 => by exfalso; omega)
  refine je_aload0 (pc := 29) d34_29 rfl ?_
  refine ju_getr (pc := 30) (b := 67) d34_30 jF_0_65 rfl (sK1 H) (sR1_9 H) ?_
  refine je_aload0 (pc := 33) d34_33 rfl ?_
  refine ju_getr (pc := 34) (b := 26) d34_34 jF_0_41 rfl (sK1 H) (sR1_5 H) ?_
  refine ju_getr (pc := 37) (b := 40) d34_37 jF_0_124 rfl (sK26 H) (sR26_1 H) ?_
  refine je_iload1 (pc := 40) d34_40 rfl ?_
  refine ju_callv (pc := 41) (as := [_, _]) d34_41 jL_0_290 jM_Ol_peaceSet rfl (by decide) (sK67 H) rfl (by exact Nat.le_of_ble_eq_true rfl) (t_Ol_peaceSet d H C wS h0 hL hN hmi hb hB0 eB hn hnn) (fun r41 h41 q41 => ?_)
  obtain ⟨rfl, f1⟩ := q41
  have H2 := f1.St H
  have lt := fun b => bs_lt (vd := vdB S R L n B0) (k := 2 ^ S.1.1) (b := b)
  generalize (bsF (vdB S R L n B0) (2 ^ S.1.1)) = o at lt ⊢
  refine ju_istore3 (pc := 44) (lv' := [some _, some _, some _, some _]) d34_44 rfl rfl ?_
  refine je_iload3 (pc := 45) d34_45 rfl ?_
  refine je_iconst (pc := 46) (v := -1) d34_46 rfl ?_
  refine je_icne (pc := 47) 53 d34_47 (by decide) (fun c47 => ?_) (fun c47 => ?_)
  · refine je_iload2 (pc := 53) d34_53 rfl ?_
    refine jn_ifne (pc := 54) (a := (y)) 64 d34_54 (by decide) (by omega) (fun c54 => ?_) (fun c54 => ?_)
    · refine je_iload3 (pc := 64) d34_64 rfl ?_
      refine je_iret (pc := 65) d34_65 rfl ?_
      match o, c47 with
      | none, c => exact absurd rfl c
      | some q, _ => exact ⟨by show some (Value.int (nI q)) = some (.int (if y = 0 then nI (pop 10 q) else nI q)); rw [if_neg c54], f1⟩
    · refine je_iload3 (pc := 57) d34_57 rfl ?_
      refine ju_calls (pc := 58) (as := [_]) d34_58 jL_0_186 jM_Int_bitCount rfl rfl (by exact Nat.le_of_ble_eq_true rfl) (t_Int_bitCount (d + 6) _) (fun r58 h58 q58 => ?_)
      obtain ⟨rfl, e58⟩ := q58
      obtain rfl := e58.symm
      refine je_goto (pc := 61) 65 d34_61 (by decide) ?_
      refine je_iret (pc := 65) d34_65 rfl ?_
      match o, c47, lt with
      | none, c, _ => exact absurd rfl c
      | some q, _, lt => exact ⟨by show some (Value.int (bcF (nI q))) = some (.int (if y = 0 then nI (pop 10 q) else nI q)); rw [if_pos c54, bcF_ok _ (by have := lt q rfl; omega)], f1⟩
  · refine je_bipush (pc := 50) (v := -2) d34_50 rfl ?_
    refine je_iret (pc := 52) d34_52 rfl ?_
    match o, c47, lt with
    | none, _, _ => exact ⟨rfl, f1⟩
    | some q, c, lt => exact absurd c (nI_nm (by have := lt q rfl; omega))
set_option maxHeartbeats 2000000 in
theorem t_Mo_peace_n (d : Nat) {bc bs : Nat} {h : jx_H} (H : jx_St h) (x y : Int32) (G : ¬ (0 < h.2.1 254 0 ∧ (¬ x < 1 ∧ ¬ 60 < x) ∧ (¬ y < 0 ∧ ¬ 1 < y))) : jx_Tr (d + 9) bc bs 12105 [.ref 253, .int x, .int y] h (fun r h' => r = some (.int (-1)) ∧ h' = h) := by
  refine jx_tr jM_Mo_peace rfl rfl (lv := [some (.ref 253), some (.int x), some (.int y), none, none, none]) rfl ?_
  refine je_aload0 (pc := 0) d12105_0 rfl ?_
  refine ju_callv (pc := 1) (as := []) d12105_1 jL_12_400 jM_Mo_isStrip rfl (by decide) (sK253 H) rfl (by exact Nat.le_of_ble_eq_true rfl) (t_Mo_isStrip (d + 7) H) (fun r1 h1 q1 => ?_)
  obtain ⟨rfl, e1⟩ := q1
  obtain rfl := e1.symm
  refine jb_ifeq (pc := 4) 29 d12105_4 (by decide) (fun c4 => ?_) (fun c4 => ?_)
  · refine je_iconst (pc := 29) (v := -1) d12105_29 rfl ?_
    refine je_iret (pc := 30) d12105_30 rfl ?_
    exact ⟨rfl, rfl⟩
  · refine je_iload1 (pc := 7) d12105_7 rfl ?_
    refine je_i2l (pc := 8) d12105_8 ?_
    refine je_lconst1 (pc := 9) d12105_9 ?_
    refine je_ldc2 (pc := 10) d12105_10 jK_12_543 ?_
    refine ju_calls (pc := 13) (as := [_, _, _]) d12105_13 jL_12_170 jM_Mo_in rfl rfl (by exact Nat.le_of_ble_eq_true rfl) (t_Mo_in (d + 7) _ _ _) (fun r13 h13 q13 => ?_)
    obtain ⟨rfl, e13⟩ := q13
    obtain rfl := e13.symm
    refine ju_eqi (v := b2 (¬ x < 1 ∧ ¬ 60 < x)) (in_1 (x) (n := 60) (by decide)) ?_
    refine jb_ifeq (pc := 16) 29 d12105_16 (by decide) (fun c16 => ?_) (fun c16 => ?_)
    · refine je_iconst (pc := 29) (v := -1) d12105_29 rfl ?_
      refine je_iret (pc := 30) d12105_30 rfl ?_
      exact ⟨rfl, rfl⟩
    · refine je_iload2 (pc := 19) d12105_19 rfl ?_
      refine je_i2l (pc := 20) d12105_20 ?_
      refine je_lconst0 (pc := 21) d12105_21 ?_
      refine je_lconst1 (pc := 22) d12105_22 ?_
      refine ju_calls (pc := 23) (as := [_, _, _]) d12105_23 jL_12_170 jM_Mo_in rfl rfl (by exact Nat.le_of_ble_eq_true rfl) (t_Mo_in (d + 7) _ _ _) (fun r23 h23 q23 => ?_)
      obtain ⟨rfl, e23⟩ := q23
      obtain rfl := e23.symm
      refine ju_eqi (v := b2 (¬ y < 0 ∧ ¬ 1 < y)) (in_0 (y) (n := 1) (by decide)) ?_
      refine jb_ifne (pc := 26) 31 d12105_26 (by decide) (fun c26 => absurd c26 (fun q => G ⟨c4, c16, q⟩)) (fun c26 => ?_)
      refine je_iconst (pc := 29) (v := -1) d12105_29 rfl ?_
      refine je_iret (pc := 30) d12105_30 rfl ?_
      exact ⟨rfl, rfl⟩
set_option maxHeartbeats 16000000 in
theorem t_Mo_peace (d : Nat) {bc bs : Nat} {h : jx_H} {S : MS} {R : Option MR} {L : ML} {nn : Nat} (H : jx_St h) (C : mLaw h S R) (wS : wfS S) (h0 : 0 < S.1.1) (hmi : S.1.1 ≤ 10) (hL : mLa h.2.1 L) (hN : L.2.2.2.2.2 = nI nn) {n y B0 : Nat} (h1 : 1 ≤ n) (hn : n ≤ 60) (hy : y ≤ 1) (hnn : nn + n < 998) (hB0 : B0 < 2 ^ S.1.1) (eB : L.2.2.2.2.1 = nI B0) : jx_Tr (d + 9) bc bs 12105 [.ref 253, .int (nI n), .int (nI y)] h (fun r h' => r = some (.int (pcV y (bsF (vdB S R L n B0) (2 ^ S.1.1)))) ∧ mLk h h' L ∧ ∀ j, j < 9 → h'.2.1 254 j = h.2.1 254 j) := by
  refine jx_tr jM_Mo_peace rfl rfl (lv := [some (.ref 253), some (.int (nI n)), some (.int (nI y)), none, none, none]) rfl ?_
  have p10 : 2 ^ S.1.1 ≤ 2 ^ 10 := Nat.pow_le_pow_right (by decide) hmi
  have frl : frB S.1.1 B0 < 2 ^ S.1.1 := by unfold frB; omega
  refine je_aload0 (pc := 0) d12105_0 rfl ?_
  refine ju_callv (pc := 1) (as := []) d12105_1 jL_12_400 jM_Mo_isStrip rfl (by decide) (sK253 H) rfl (by exact Nat.le_of_ble_eq_true rfl) (t_Mo_isStrip (d + 7) H) (fun r1 h1 q1 => ?_)
  obtain ⟨rfl, e1⟩ := q1
  obtain rfl := e1.symm
  refine jb_ifeq (pc := 4) 29 d12105_4 (by decide) (fun c4 => absurd c4 (fun q => q (by rw [C.1.1.1]; exact nI_lt (a := 0) h0 (by omega)))) (fun c4 => ?_)
  refine je_iload1 (pc := 7) d12105_7 rfl ?_
  refine je_i2l (pc := 8) d12105_8 ?_
  refine je_lconst1 (pc := 9) d12105_9 ?_
  refine je_ldc2 (pc := 10) d12105_10 jK_12_543 ?_
  refine ju_calls (pc := 13) (as := [_, _, _]) d12105_13 jL_12_170 jM_Mo_in rfl rfl (by exact Nat.le_of_ble_eq_true rfl) (t_Mo_in (d + 7) _ _ _) (fun r13 h13 q13 => ?_)
  obtain ⟨rfl, e13⟩ := q13
  obtain rfl := e13.symm
  refine ju_eqi (v := b2 (¬ nI n < 1 ∧ ¬ 60 < nI n)) (in_1 (nI n) (n := 60) (by decide)) ?_
  refine jb_ifeq (pc := 16) 29 d12105_16 (by decide) (fun c16 => absurd c16 (fun q => q ⟨nI_nlt (b := 1) h1 (by omega), nI_nlt (a := 60) (b := n) hn (by decide)⟩)) (fun c16 => ?_)
  refine je_iload2 (pc := 19) d12105_19 rfl ?_
  refine je_i2l (pc := 20) d12105_20 ?_
  refine je_lconst0 (pc := 21) d12105_21 ?_
  refine je_lconst1 (pc := 22) d12105_22 ?_
  refine ju_calls (pc := 23) (as := [_, _, _]) d12105_23 jL_12_170 jM_Mo_in rfl rfl (by exact Nat.le_of_ble_eq_true rfl) (t_Mo_in (d + 7) _ _ _) (fun r23 h23 q23 => ?_)
  obtain ⟨rfl, e23⟩ := q23
  obtain rfl := e23.symm
  refine ju_eqi (v := b2 (¬ nI y < 0 ∧ ¬ 1 < nI y)) (in_0 (nI y) (n := 1) (by decide)) ?_
  refine jb_ifne (pc := 26) 31 d12105_26 (by decide) (fun c26 => ?_) (fun c26 => absurd c26 (fun q => absurd ⟨nI_pos (by omega), nI_nlt (a := 1) (b := y) hy (by decide)⟩ q))
  refine je_iconst (pc := 31) (v := 1) d12105_31 rfl ?_
  refine je_aload0 (pc := 32) d12105_32 rfl ?_
  refine ju_getr (pc := 33) (b := 254) d12105_33 jF_12_9 rfl (sK253 H) (sR253_1 H) ?_
  refine je_iconst (pc := 36) (v := 0) d12105_36 rfl ?_
  refine ju_iald (pc := 37) (jn := 0) d12105_37 (sK254 H) (by first | assumption | exact jx_ok_dec (by decide)) (by decide) ?_
  refine ju_eqi (v := nI S.1.1) C.1.1.1 ?_
  refine je_ishl (pc := 38) d12105_38 ?_
  refine je_iconst (pc := 39) (v := 1) d12105_39 rfl ?_
  refine je_isub (pc := 40) d12105_40 ?_
  refine je_aload0 (pc := 41) d12105_41 rfl ?_
  refine ju_getr (pc := 42) (b := 254) d12105_42 jF_12_9 rfl (sK253 H) (sR253_1 H) ?_
  refine je_iconst (pc := 45) (v := 4) d12105_45 rfl ?_
  refine ju_iald (pc := 46) (jn := 4) d12105_46 (sK254 H) (by first | assumption | exact jx_ok_dec (by decide)) (by decide) ?_
  refine ju_eqi (v := nI B0) (hL.2.2.1.trans eB) ?_
  refine je_iconst (pc := 47) (v := -1) d12105_47 rfl ?_
  refine je_ixor (pc := 48) d12105_48 ?_
  refine je_iand (pc := 49) d12105_49 ?_
  refine ju_eqi (v := nI (frB S.1.1 B0)) (fr_i _ (by omega) _ hB0) ?_
  refine ju_istore3 (pc := 50) (lv' := [some _, some _, some _, some _, none, none]) d12105_50 rfl rfl ?_
  refine je_bipush (pc := 51) (v := -2) d12105_51 rfl ?_
  refine ju_istore (pc := 53) (lv' := [some _, some _, some _, some _, some _, none]) d12105_53 rfl rfl ?_
  refine je_aload0 (pc := 55) d12105_55 rfl ?_
  refine ju_callv (pc := 56) (as := []) d12105_56 jL_12_482 jM_Mo_keepsAll rfl (by decide) (sK253 H) rfl (by exact Nat.le_of_ble_eq_true rfl) (t_Mo_keepsAll (d + 5) H hL) (fun r56 h56 q56 => ?_)
  obtain ⟨rfl, k1, k2⟩ := q56
  have H1 := k1.St H
  have C1 := k1.law C
  refine je_iconst (pc := 59) (v := 0) d12105_59 rfl ?_
  refine ju_istore (pc := 60) (lv' := [some _, some _, some _, some _, some _, some _]) d12105_60 rfl rfl ?_
  refine je_loop (σ := Unit) (frB S.1.1 B0 + 1) (fun k xx => [some (.ref 253), some (.int (nI n)), some (.int (nI y)), some (.int (nI (frB S.1.1 B0))), some (.int (psM (bsF (vdB S R L n B0) k))), some (.int (nI k))]) (fun k _ h' => mLk h h' L ∧ ∀ j, j < 9 → h'.2.1 254 j = h.2.1 254 j) (fun k xx h' hk e kk => ?_) (fun xx h' e => ?_) (0) () _ (by omega) ⟨k1, k2⟩
  · obtain ⟨e1, e2⟩ := e
    have H1 := e1.St H
    have kl : k < 2 ^ S.1.1 := by unfold frB at hk; omega
    have ka := and_le (b := B0) kl
    refine je_iload (pc := 62) d12105_62 rfl ?_
    refine je_iload3 (pc := 64) d12105_64 rfl ?_
    refine jn_icgt (pc := 65) (a := (k)) (b := (frB S.1.1 B0)) 135 d12105_65 (by decide) (by omega) (by omega) (fun c65 => by exfalso; omega) (fun c65 => ?_)
    refine je_iload (pc := 68) d12105_68 rfl ?_
    refine je_iload3 (pc := 70) d12105_70 rfl ?_
    refine je_iconst (pc := 71) (v := -1) d12105_71 rfl ?_
    refine je_ixor (pc := 72) d12105_72 ?_
    refine je_iand (pc := 73) d12105_73 ?_
    refine ju_eqi (v := nI (k &&& B0)) (fr_k (by omega) hB0 kl) ?_
    refine jn_ifne (pc := 74) (a := (k &&& B0)) 129 d12105_74 (by decide) (by omega) (fun c74 => ?_) (fun c74 => ?_)
    · refine ju_incN (pc := 129) (v := nI ((k) + 1)) (lv' := [some _, some _, some _, some _, some _, some _]) d12105_129 rfl (nI_1 (k)) rfl ?_
      refine je_goto (pc := 132) 62 d12105_132 (by decide) ?_
      have vt : vdB S R L n B0 k = false := decide_eq_false (fun z => c74 z.1)
      have es : bsF (vdB S R L n B0) (k + 1) = bsF (vdB S R L n B0) k := bs_stop (by omega) (fun q h1 h2 => by rw [show q = k by omega]; exact vt)
      have := kk () _ ⟨e1, e2⟩
      rw [es] at this
      exact this
    · match eo : bsF (vdB S R L n B0) k with
      | none =>
        refine je_iload (pc := 77) d12105_77 rfl ?_
        refine je_bipush (pc := 79) (v := -2) d12105_79 rfl ?_
        refine je_iceq (pc := 81) 97 d12105_81 (by decide) (fun c81 => ?_) (fun c81 => absurd c81 (fun z => z rfl))
        refine je_aload0 (pc := 97) d12105_97 rfl ?_
        refine ju_getr (pc := 98) (b := 254) d12105_98 jF_12_9 rfl (sK253 H1) (sR253_1 H1) ?_
        refine je_iconst (pc := 101) (v := 4) d12105_101 rfl ?_
        refine je_dup2 (pc := 102) d12105_102 rfl rfl ?_
        refine ju_iald (pc := 103) (jn := 4) d12105_103 (sK254 H1) (by first | assumption | exact jx_ok_dec (by decide)) (by decide) ?_
        refine je_iload (pc := 104) d12105_104 rfl ?_
        refine je_ior (pc := 106) d12105_106 ?_
        refine ju_eqi (v := nI (B0 ||| k)) (by rw [e1.2.2.2.2.2.1, eB, fa_or]) ?_
        refine ju_iast (pc := 107) (jn := 4) d12105_107 (sK254 H1) (by first | assumption | exact jx_ok_dec (by decide)) (by decide) ?_
        have k2 : mLk h (jx_wI h' 254 4 (nI (B0 ||| k))) (bkL (B0 ||| k) L) := e1.fr ((fC.rf (A := fun b => b = 254)).wI rfl) (fun b hb => by omega) (fun j hj => by rw [wI_at, jx_up_ne _ _ (by omega)]) ⟨fun m hm => by rw [wI_ne _ _ _ (by decide), wI_ne _ _ _ (by decide), wI_ne _ _ _ (by decide)]; exact e1.2.2.2.1 m hm, fun v hv => by rw [wI_ne _ _ _ (by decide)]; exact e1.2.2.2.2.1 v hv, by rw [wI_at, jx_up_self]; rfl, by rw [wI_at, jx_up_ne _ _ (by decide)]; exact e1.2.2.2.2.2.2⟩
        have H2 := k2.St H
        refine je_aload0 (pc := 108) d12105_108 rfl ?_
        refine je_iload1 (pc := 109) d12105_109 rfl ?_
        refine ju_callv (pc := 110) (as := [_]) d12105_110 jL_12_485 jM_Mo_goes rfl (by decide) (sK253 H2) rfl (by exact Nat.le_of_ble_eq_true rfl) (t_Mo_goes d (n := n) (L := (bkL (B0 ||| k) L)) (nn := nn) H2 (k2.law C) wS h0 hmi k2.2.2.2 hN (by omega)) (fun r110 h110 q110 => ?_)
        obtain ⟨rfl, f1, f2⟩ := q110
        have k3 := k2.N f1 f2
        have H3 := k3.St H
        have cl := ctF_le (S := S) (R := R) (L := (bkL (B0 ||| k) L)) n
        have cl2 : S.1.2.1 * n ≤ 8 * 60 := Nat.mul_le_mul wS.2.1 hn
        refine ju_eqi (v := nI (ctF S R (bkL (B0 ||| k) L) n)) rfl ?_
        refine jn_ifne (pc := 113) (a := (ctF S R (bkL (B0 ||| k) L) n)) 121 d12105_113 (by decide) (by omega) (fun c113 => ?_) (fun c113 => ?_)
        · refine je_iload (pc := 121) d12105_121 rfl ?_
          refine ju_istore (pc := 123) (lv' := [some _, some _, some _, some _, some _, some _]) d12105_123 rfl rfl ?_
          refine je_aload0 (pc := 125) d12105_125 rfl ?_
          refine ju_callv (pc := 126) (as := []) d12105_126 jL_12_491 jM_Mo_laysBack rfl (by decide) (sK253 H3) rfl (by exact Nat.le_of_ble_eq_true rfl) (t_Mo_laysBack (d + 5) H3 k3 hL) (fun r126 h126 q126 => ?_)
          obtain ⟨rfl, k4, k5⟩ := q126
          refine ju_incN (pc := 129) (v := nI ((k) + 1)) (lv' := [some _, some _, some _, some _, some _, some _]) d12105_129 rfl (nI_1 (k)) rfl ?_
          refine je_goto (pc := 132) 62 d12105_132 (by decide) ?_
          have vt : ¬ (vdB S R L n B0 k = true) := fun z => c113 (of_decide_eq_true z).2
          have es := bs_n eo
          rw [if_neg vt] at es
          have := kk () _ ⟨k4, k5⟩
          rw [es] at this
          exact this
        · refine je_iload (pc := 116) d12105_116 rfl ?_
          refine je_goto (pc := 118) 123 d12105_118 (by decide) ?_
          refine ju_istore (pc := 123) (lv' := [some _, some _, some _, some _, some _, some _]) d12105_123 rfl rfl ?_
          refine je_aload0 (pc := 125) d12105_125 rfl ?_
          refine ju_callv (pc := 126) (as := []) d12105_126 jL_12_491 jM_Mo_laysBack rfl (by decide) (sK253 H3) rfl (by exact Nat.le_of_ble_eq_true rfl) (t_Mo_laysBack (d + 5) H3 k3 hL) (fun r126 h126 q126 => ?_)
          obtain ⟨rfl, k4, k5⟩ := q126
          refine ju_incN (pc := 129) (v := nI ((k) + 1)) (lv' := [some _, some _, some _, some _, some _, some _]) d12105_129 rfl (nI_1 (k)) rfl ?_
          refine je_goto (pc := 132) 62 d12105_132 (by decide) ?_
          have vt : vdB S R L n B0 k = true := decide_eq_true ⟨c74, c113⟩
          have es := bs_n eo
          rw [if_pos vt] at es
          have := kk () _ ⟨k4, k5⟩
          rw [es] at this
          exact this
      | some b =>
        have bl := bs_lt eo
        have pl := pop_le 10 k
        have pl2 := pop_le 10 b
        refine je_iload (pc := 77) d12105_77 rfl ?_
        refine je_bipush (pc := 79) (v := -2) d12105_79 rfl ?_
        refine je_iceq (pc := 81) 97 d12105_81 (by decide) (fun c81 => absurd c81 (nI_nm2 (by omega))) (fun c81 => ?_)
        refine je_iload (pc := 84) d12105_84 rfl ?_
        refine ju_calls (pc := 86) (as := [_]) d12105_86 jL_12_503 jM_Mo_bits rfl rfl (by exact Nat.le_of_ble_eq_true rfl) (t_Mo_bits (d + 7) (z := k) (by omega)) (fun r86 h86 q86 => ?_)
        obtain ⟨rfl, e86⟩ := q86
        obtain rfl := e86.symm
        refine ju_eqi (v := nI (pop 10 k)) (by rw [pop_16 (by omega)]) ?_
        refine je_iload (pc := 89) d12105_89 rfl ?_
        refine ju_calls (pc := 91) (as := [_]) d12105_91 jL_12_503 jM_Mo_bits rfl rfl (by exact Nat.le_of_ble_eq_true rfl) (t_Mo_bits (d + 7) (z := b) (by omega)) (fun r91 h91 q91 => ?_)
        obtain ⟨rfl, e91⟩ := q91
        obtain rfl := e91.symm
        refine ju_eqi (v := nI (pop 10 b)) (by rw [pop_16 (by omega)]) ?_
        refine jn_icge (pc := 94) (a := (pop 10 k)) (b := (pop 10 b)) 129 d12105_94 (by decide) (by omega) (by omega) (fun c94 => ?_) (fun c94 => ?_)
        · refine ju_incN (pc := 129) (v := nI ((k) + 1)) (lv' := [some _, some _, some _, some _, some _, some _]) d12105_129 rfl (nI_1 (k)) rfl ?_
          refine je_goto (pc := 132) 62 d12105_132 (by decide) ?_
          have es := bs_s eo
          rw [if_neg (fun z => absurd z.2 (by omega))] at es
          have := kk () _ ⟨e1, e2⟩
          rw [es] at this
          exact this
        · refine je_aload0 (pc := 97) d12105_97 rfl ?_
          refine ju_getr (pc := 98) (b := 254) d12105_98 jF_12_9 rfl (sK253 H1) (sR253_1 H1) ?_
          refine je_iconst (pc := 101) (v := 4) d12105_101 rfl ?_
          refine je_dup2 (pc := 102) d12105_102 rfl rfl ?_
          refine ju_iald (pc := 103) (jn := 4) d12105_103 (sK254 H1) (by first | assumption | exact jx_ok_dec (by decide)) (by decide) ?_
          refine je_iload (pc := 104) d12105_104 rfl ?_
          refine je_ior (pc := 106) d12105_106 ?_
          refine ju_eqi (v := nI (B0 ||| k)) (by rw [e1.2.2.2.2.2.1, eB, fa_or]) ?_
          refine ju_iast (pc := 107) (jn := 4) d12105_107 (sK254 H1) (by first | assumption | exact jx_ok_dec (by decide)) (by decide) ?_
          have k2 : mLk h (jx_wI h' 254 4 (nI (B0 ||| k))) (bkL (B0 ||| k) L) := e1.fr ((fC.rf (A := fun b => b = 254)).wI rfl) (fun b hb => by omega) (fun j hj => by rw [wI_at, jx_up_ne _ _ (by omega)]) ⟨fun m hm => by rw [wI_ne _ _ _ (by decide), wI_ne _ _ _ (by decide), wI_ne _ _ _ (by decide)]; exact e1.2.2.2.1 m hm, fun v hv => by rw [wI_ne _ _ _ (by decide)]; exact e1.2.2.2.2.1 v hv, by rw [wI_at, jx_up_self]; rfl, by rw [wI_at, jx_up_ne _ _ (by decide)]; exact e1.2.2.2.2.2.2⟩
          have H2 := k2.St H
          refine je_aload0 (pc := 108) d12105_108 rfl ?_
          refine je_iload1 (pc := 109) d12105_109 rfl ?_
          refine ju_callv (pc := 110) (as := [_]) d12105_110 jL_12_485 jM_Mo_goes rfl (by decide) (sK253 H2) rfl (by exact Nat.le_of_ble_eq_true rfl) (t_Mo_goes d (n := n) (L := (bkL (B0 ||| k) L)) (nn := nn) H2 (k2.law C) wS h0 hmi k2.2.2.2 hN (by omega)) (fun r110 h110 q110 => ?_)
          obtain ⟨rfl, f1, f2⟩ := q110
          have k3 := k2.N f1 f2
          have H3 := k3.St H
          have cl := ctF_le (S := S) (R := R) (L := (bkL (B0 ||| k) L)) n
          have cl2 : S.1.2.1 * n ≤ 8 * 60 := Nat.mul_le_mul wS.2.1 hn
          refine ju_eqi (v := nI (ctF S R (bkL (B0 ||| k) L) n)) rfl ?_
          refine jn_ifne (pc := 113) (a := (ctF S R (bkL (B0 ||| k) L) n)) 121 d12105_113 (by decide) (by omega) (fun c113 => ?_) (fun c113 => ?_)
          · refine je_iload (pc := 121) d12105_121 rfl ?_
            refine ju_istore (pc := 123) (lv' := [some _, some _, some _, some _, some _, some _]) d12105_123 rfl rfl ?_
            refine je_aload0 (pc := 125) d12105_125 rfl ?_
            refine ju_callv (pc := 126) (as := []) d12105_126 jL_12_491 jM_Mo_laysBack rfl (by decide) (sK253 H3) rfl (by exact Nat.le_of_ble_eq_true rfl) (t_Mo_laysBack (d + 5) H3 k3 hL) (fun r126 h126 q126 => ?_)
            obtain ⟨rfl, k4, k5⟩ := q126
            refine ju_incN (pc := 129) (v := nI ((k) + 1)) (lv' := [some _, some _, some _, some _, some _, some _]) d12105_129 rfl (nI_1 (k)) rfl ?_
            refine je_goto (pc := 132) 62 d12105_132 (by decide) ?_
            have vt : ¬ (vdB S R L n B0 k = true) := fun z => c113 (of_decide_eq_true z).2
            have es := bs_s eo
            rw [if_neg (fun z => vt z.1)] at es
            have := kk () _ ⟨k4, k5⟩
            rw [es] at this
            exact this
          · refine je_iload (pc := 116) d12105_116 rfl ?_
            refine je_goto (pc := 118) 123 d12105_118 (by decide) ?_
            refine ju_istore (pc := 123) (lv' := [some _, some _, some _, some _, some _, some _]) d12105_123 rfl rfl ?_
            refine je_aload0 (pc := 125) d12105_125 rfl ?_
            refine ju_callv (pc := 126) (as := []) d12105_126 jL_12_491 jM_Mo_laysBack rfl (by decide) (sK253 H3) rfl (by exact Nat.le_of_ble_eq_true rfl) (t_Mo_laysBack (d + 5) H3 k3 hL) (fun r126 h126 q126 => ?_)
            obtain ⟨rfl, k4, k5⟩ := q126
            refine ju_incN (pc := 129) (v := nI ((k) + 1)) (lv' := [some _, some _, some _, some _, some _, some _]) d12105_129 rfl (nI_1 (k)) rfl ?_
            refine je_goto (pc := 132) 62 d12105_132 (by decide) ?_
            have vt : vdB S R L n B0 k = true := decide_eq_true ⟨c74, c113⟩
            have es := bs_s eo
            rw [if_pos ⟨vt, by omega⟩] at es
            have := kk () _ ⟨k4, k5⟩
            rw [es] at this
            exact this
  · obtain ⟨e1, e2⟩ := e
    have H1 := e1.St H
    refine je_iload (pc := 62) d12105_62 rfl ?_
    refine je_iload3 (pc := 64) d12105_64 rfl ?_
    refine jn_icgt (pc := 65) (a := ((frB S.1.1 B0 + 1))) (b := (frB S.1.1 B0)) 135 d12105_65 (by decide) (by omega) (by omega) (fun c65 => ?_) (fun c65 => by exfalso; omega)
    have es : bsF (vdB S R L n B0) (2 ^ S.1.1) = bsF (vdB S R L n B0) (frB S.1.1 B0 + 1) := bs_stop (by unfold frB; omega) (fun q h1 h2 => decide_eq_false (fun z => by have := fr_le hB0 h2 z.1; omega))
    rw [es]
    match eo : bsF (vdB S R L n B0) (frB S.1.1 B0 + 1) with
    | none =>
      refine je_iload (pc := 135) d12105_135 rfl ?_
      refine je_bipush (pc := 137) (v := -2) d12105_137 rfl ?_
      refine je_iceq (pc := 139) 147 d12105_139 (by decide) (fun c139 => ?_) (fun c139 => absurd c139 (fun z => z rfl))
      refine je_iload (pc := 147) d12105_147 rfl ?_
      refine je_goto (pc := 149) 157 d12105_149 (by decide) ?_
      refine je_iret (pc := 157) d12105_157 rfl ?_
      exact ⟨rfl, e1, e2⟩
    | some b =>
      have bl := bs_lt eo
      have fl : frB S.1.1 B0 + 1 ≤ 2 ^ S.1.1 := by unfold frB; omega
      refine je_iload (pc := 135) d12105_135 rfl ?_
      refine je_bipush (pc := 137) (v := -2) d12105_137 rfl ?_
      refine je_iceq (pc := 139) 147 d12105_139 (by decide) (fun c139 => absurd c139 (nI_nm2 (by omega))) (fun c139 => ?_)
      refine je_iload2 (pc := 142) d12105_142 rfl ?_
      refine je_iconst (pc := 143) (v := 1) d12105_143 rfl ?_
      refine jn_icne (pc := 144) (a := (y)) (b := 1) 152 d12105_144 (by decide) (by omega) (by omega) (fun c144 => ?_) (fun c144 => ?_)
      · refine je_iload (pc := 152) d12105_152 rfl ?_
        refine ju_calls (pc := 154) (as := [_]) d12105_154 jL_12_503 jM_Mo_bits rfl rfl (by exact Nat.le_of_ble_eq_true rfl) (t_Mo_bits (d + 7) (z := b) (by omega)) (fun r154 h154 q154 => ?_)
        obtain ⟨rfl, e154⟩ := q154
        obtain rfl := e154.symm
        refine je_iret (pc := 157) d12105_157 rfl ?_
        exact ⟨by show some (Value.int (nI (pop 16 b))) = some (.int (if y = 0 then nI (pop 10 b) else nI b)); rw [if_pos (by omega), pop_16 (by omega)], e1, e2⟩
      · refine je_iload (pc := 147) d12105_147 rfl ?_
        refine je_goto (pc := 149) 157 d12105_149 (by decide) ?_
        refine je_iret (pc := 157) d12105_157 rfl ?_
        exact ⟨by show some (Value.int (nI b)) = some (.int (if y = 0 then nI (pop 10 b) else nI b)); rw [if_neg (by omega)], e1, e2⟩
theorem op_peace (x y : Int32) : jo Inv 34 12105 [.int x, .int y] := jo_look (fun n h t nr rs X Y hn q => by
  obtain ⟨s, r1, r2, r3, r4, -⟩ := q.cl
  obtain ⟨b1, b2, -⟩ := q.mi
  obtain ⟨-, -, -, -, ⟨-, rl, -⟩, -, ⟨wS, wl, -⟩, -⟩ := id q
  by_cases G : 0 < X.1.1.1 ∧ (¬ x < 1 ∧ ¬ 60 < x) ∧ (¬ y < 0 ∧ ¬ 1 < y)
  · obtain ⟨G1, ⟨G2, G3⟩, G4⟩ := G
    obtain ⟨i, hi, rfl⟩ := z_of (x := x) (n := 60) ⟨fun c => G2 (Int32.lt_trans c (by decide)), G3⟩ (by decide)
    obtain ⟨k, hk, rfl⟩ := z_of (n := 1) G4 (by decide)
    have hi1 : 1 ≤ i := Nat.le_of_not_lt (fun c => G2 (nI_lt (b := 1) c (by decide)))
    obtain ⟨R, C1, C2⟩ := q.law G1
    obtain ⟨wb, -, ⟨B, hB, eB⟩, N, hN, eN⟩ := id wl
    refine ⟨_, (t_Db_peace 191 q.1 C1 wS G1 rl eN b1 (fun m hm => (wb m hm).1) hB eB hi (by omega) r1 r3 r4 hi1 hk).mono (fun r h1 e => ⟨e.1, e.2.mo (fun b hb => by omega)⟩), fun h1 S1 g1 m1 => (t_Mo_peace 190 S1 (C2 h1 g1) wS G1 b1 m1.la eN hi1 hi hk (by omega) hB eB).mono (fun r h2 e => ⟨e.1, e.2.1.fin e.2.2 m1⟩)⟩
  · have g0 : ∀ k : Nat, k ≤ 10 → (0 < nI k ↔ 0 < k) := fun k hk => nI_ltI (a := 0) (by decide) (by omega)
    exact ⟨-1, (t_Db_peace_n 191 q.1 r1 r3 x y (by rw [r4.1.1]; exact fun c => G ⟨(g0 _ b1).mp c.1, ⟨c.2.1, c.2.2.1⟩, c.2.2.2⟩)).mono (fun r h1 e => ⟨e.1, by rw [e.2]; exact fC.rf⟩), fun h1 S1 g1 m1 => (t_Mo_peace_n 190 S1 x y (by rw [m1.st.1.1]; exact fun c => G ⟨(g0 _ b1).mp c.1, c.2⟩)).mono (fun r h2 e => ⟨e.1, by rw [e.2]; exact ⟨fM.rf, m1⟩⟩)⟩)
