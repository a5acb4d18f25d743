/-! numbers and words of a text; the class -/
set_option maxHeartbeats 2000000 in
theorem t_Tx_blame_n (d : Nat) {bc bs : Nat} {h : jx_H} {f : Int32} (H : jx_St h) (hf : h.2.1 2 5 = f) (f0 : ¬ f = 0) (c : Int32) : jx_Tr (d + 1) bc bs 1008 [.ref 2, .int c] h (fun r h' => r = none ∧ h' = h) := by
  refine jx_tr jM_Tx_blame rfl rfl (lv := [some (.ref 2), some (.int c)]) rfl ?_
  refine je_aload0 (pc := 0) d1008_0 rfl ?_
  refine ju_geti (pc := 1) d1008_1 jF_1_22 rfl (sK2 H) ?_
  refine ju_eqi (v := f) hf ?_
  refine je_ifne (pc := 4) 28 d1008_4 (by decide) (fun c4 => ?_) (fun c4 => absurd c4 f0)
  refine je_ret (pc := 28) d1008_28 rfl ?_
  exact ⟨rfl, rfl⟩
set_option maxHeartbeats 2000000 in
theorem t_Tx_blame (d : Nat) {bc bs : Nat} {h : jx_H} {b c : Nat} (H : jx_St h) (f0 : h.2.1 2 5 = 0) (hb : h.2.1 2 3 = nI b) (hc : c ≤ 4) (hbN : b ≤ 400) : jx_Tr (d + 1) bc bs 1008 [.ref 2, .int (nI c)] h (fun r h' => r = none ∧ h' = jx_wI (jx_wI h 2 5 (nI (1 + 8 * b + c))) 2 2 (-2)) := by
  refine jx_tr jM_Tx_blame rfl rfl (lv := [some (.ref 2), some (.int (nI c))]) rfl ?_
  refine je_aload0 (pc := 0) d1008_0 rfl ?_
  refine ju_geti (pc := 1) d1008_1 jF_1_22 rfl (sK2 H) ?_
  refine ju_eqi (v := 0) f0 ?_
  refine je_ifne (pc := 4) 28 d1008_4 (by decide) (fun c4 => absurd c4 (by decide)) (fun c4 => ?_)
  refine je_aload0 (pc := 7) d1008_7 rfl ?_
  refine je_iconst (pc := 8) (v := 1) d1008_8 rfl ?_
  refine je_bipush (pc := 9) (v := 8) d1008_9 rfl ?_
  refine je_aload0 (pc := 11) d1008_11 rfl ?_
  refine ju_geti (pc := 12) d1008_12 jF_1_28 rfl (sK2 H) ?_
  refine ju_eqi (v := nI b) hb ?_
  refine je_imul (pc := 15) d1008_15 ?_
  refine ju_eqi (v := nI (8 * (b))) (pk_mul 8 (b)) ?_
  refine je_iadd (pc := 16) d1008_16 ?_
  refine ju_eqi (v := nI (1 + (8 * (b)))) (nI_add 1 (8 * (b))) ?_
  refine je_iload1 (pc := 17) d1008_17 rfl ?_
  refine je_iadd (pc := 18) d1008_18 ?_
  refine ju_eqi (v := nI ((1 + (8 * (b))) + (c))) (nI_add (1 + (8 * (b))) (c)) ?_
  refine ju_puti (pc := 19) d1008_19 jF_1_22 rfl (sK2 H) ?_
  refine je_aload0 (pc := 22) d1008_22 rfl ?_
  refine je_bipush (pc := 23) (v := -2) d1008_23 rfl ?_
  refine ju_puti (pc := 25) d1008_25 jF_1_37 rfl (sK2 H.wI) ?_
  refine je_ret (pc := 28) d1008_28 rfl ?_
  exact ⟨rfl, rfl⟩
set_option maxHeartbeats 2000000 in
theorem t_Tx_start (d : Nat) {bc bs : Nat} {h : jx_H} {N : Nat} (H : jx_St h) (hs : h.2.1 2 1 = nI N) (hN : N ≤ 400) : jx_Tr (d + 4) bc bs 1002 [.ref 2] h (fun r h' => r = none ∧ fC (fun b => b = 2) h h' ∧ (∀ j, j < 2 → h'.2.1 2 j = h.2.1 2 j) ∧ txA h' N (skB (h.2.1 3) N 0)) := by
  refine jx_tr jM_Tx_start rfl rfl (lv := [some (.ref 2)]) rfl ?_
  refine je_aload0 (pc := 0) d1002_0 rfl ?_
  refine je_iconst (pc := 1) (v := 0) d1002_1 rfl ?_
  refine ju_puti (pc := 2) d1002_2 jF_1_19 rfl (sK2 H) ?_
  refine je_aload0 (pc := 5) d1002_5 rfl ?_
  refine je_iconst (pc := 6) (v := 0) d1002_6 rfl ?_
  refine ju_puti (pc := 7) d1002_7 jF_1_22 rfl (sK2 H.wI) ?_
  refine je_aload0 (pc := 10) d1002_10 rfl ?_
  refine ju_callv (pc := 11) (as := []) d1002_11 jL_1_25 jM_Tx_advance rfl (by decide) (sK2 H.wI.wI) rfl (by exact Nat.le_of_ble_eq_true rfl) (t_Tx_advance d (N := N) (u := 0) H.wI.wI (by rw [wI_at, jx_up_ne _ _ (by decide), wI_at, jx_up_ne _ _ (by decide)]; exact hs) (by rw [wI_at, jx_up_ne _ _ (by decide), wI_at, jx_up_self]; rfl) hN (by omega) (by rw [wI_at, jx_up_self])) (fun r11 h11 q11 => ?_)
  obtain ⟨rfl, g1, g2, g3⟩ := q11
  refine je_ret (pc := 14) d1002_14 rfl ?_
  refine ⟨rfl, (((fC.rf (A := fun b => b = 2)).wI rfl).wI rfl).tr g1, fun j hj => ?_, ?_⟩
  · rw [g2 j (by omega) (by omega) (by omega), wI_at, jx_up_ne _ _ (by omega), wI_at, jx_up_ne _ _ (by omega)]
  · rw [wI_ne _ _ _ (by decide), wI_ne _ _ _ (by decide)] at g3; exact g3
/-- bytes -/
def bytT (T : Nat → Int32) (N : Nat) : Prop := ∀ j, j < N → 0 ≤ (T j).toInt ∧ (T j).toInt ≤ 255
def dgN (T : Nat → Int32) (j : Nat) : Nat := (T j).toNatClampNeg - 48
theorem dg_e {x : Int32} (h : isDg x = true) : ∃ a, a ≤ 9 ∧ x = nI (48 + a) := by
  obtain ⟨h1, h2⟩ := of_decide_eq_true h
  obtain ⟨j, hj, rfl⟩ := z_of (n := 57) ⟨fun z => h1 (Int32.lt_trans z (by decide)), h2⟩ (by decide)
  have : ¬ j < 48 := fun z => h1 (nI_lt (b := 48) z (by decide))
  exact ⟨j - 48, by omega, by rw [show 48 + (j - 48) = j by omega]⟩
theorem dgN_e {T : Nat → Int32} {j : Nat} (h : isDg (T j) = true) : dgN T j ≤ 9 ∧ T j = nI (48 + dgN T j) := by
  obtain ⟨a, ha, e⟩ := dg_e h
  have : dgN T j = a := by unfold dgN; rw [e, nI_clamp (by omega)]; omega
  rw [this]
  exact ⟨ha, e⟩
def vlN (T : Nat → Int32) (b : Nat) : Nat → Nat
  | 0 => 0
  | k + 1 => vlN T b k * 10 + dgN T (b + k)
theorem vl_lt {T : Nat → Int32} {b : Nat} : ∀ {k : Nat}, (∀ j, j < k → dgN T (b + j) ≤ 9) → vlN T b k < 10 ^ k
  | 0, _ => Nat.one_pos
  | k + 1, h => by
    have ih := vl_lt (T := T) (b := b) (k := k) (fun j hj => h j (by omega))
    have := h k (by omega)
    rw [vlN, Nat.pow_succ]
    omega
def dgs (T : Nat → Int32) (N b : Nat) : Nat := tkE T N b - b
def fv5 (n : Nat) : Nat := if n < 5 then n else 5
/-- the number at b, and how it is at fault -/
def nbK (T : Nat → Int32) (N b : Nat) (lo hi : Int32) : Option Nat := if ¬ (b < N ∧ isDg (T b) = true) then some 0 else if 5 < dgs T N b ∨ nI (vlN T b (fv5 (dgs T N b))) < lo ∨ hi < nI (vlN T b (fv5 (dgs T N b))) then some 1 else none
theorem dgs_in {T : Nat → Int32} {N b j : Nat} (hb : b < N) (hd : isDg (T b) = true) (hj : j < dgs T N b) : b + j < N ∧ isDg (T (b + j)) = true := by
  unfold dgs tkE at hj
  rw [if_neg (by omega), if_pos hd] at hj
  match j, hj with
  | 0, _ => exact ⟨hb, hd⟩
  | j + 1, hj =>
    have := sp_in (c := fun j => isDg (T j)) (N := N) (p := b + 1) (k := j) (by omega)
    rw [show b + (j + 1) = b + 1 + j by omega]
    exact this
theorem tkS_256 {T : Nat → Int32} {N b : Nat} (hT : bytT T N) : tkS T N b = 256 ↔ (b < N ∧ isDg (T b) = true) := by
  unfold tkS
  constructor
  · intro h
    split at h
    · exact absurd h (by decide)
    · split at h
      · rename_i c1 c2; exact ⟨by omega, c2⟩
      · split at h
        · exact absurd h (by decide)
        · split at h
          · split at h <;> exact absurd h (by decide)
          · rename_i c1 _ _ _
            have := hT b (by omega)
            rw [h] at this
            exact absurd this.2 (by decide)
  · intro h
    rw [if_neg (by omega), if_pos h.2]
def nbP (h : jx_H) (N b : Nat) (lo hi : Int32) (r : Option Value) (h' : jx_H) : Prop := (∀ c, nbK (h.2.1 3) N b lo hi = some c → c ≤ 4 ∧ r = some (.int lo) ∧ h' = jx_wI (jx_wI h 2 5 (nI (1 + 8 * b + c))) 2 2 (-2)) ∧ (nbK (h.2.1 3) N b lo hi = none → r = some (.int (nI (vlN (h.2.1 3) b (fv5 (dgs (h.2.1 3) N b))))) ∧ h' = h)
set_option maxHeartbeats 8000000 in
theorem t_Tx_number (d : Nat) {bc bs : Nat} {h : jx_H} {N b : Nat} (lo hi : Int32) (H : jx_St h) (A : txA h N b) (hN : N ≤ 400) (hb : b ≤ N) (hT : bytT (h.2.1 3) N) : jx_Tr (d + 3) bc bs 1010 [.ref 2, .int lo, .int hi] h (nbP h N b lo hi) := by
  refine jx_tr jM_Tx_number rfl rfl (lv := [some (.ref 2), some (.int lo), some (.int hi), none, none]) rfl ?_
  have tn := tk_N (T := h.2.1 3) hb
  refine je_aload0 (pc := 0) d1010_0 rfl ?_
  refine ju_geti (pc := 1) d1010_1 jF_1_37 rfl (sK2 H) ?_
  refine ju_eqi (v := tkS (h.2.1 3) N b) A.2.2.2.1 ?_
  refine je_sipush (pc := 4) (v := 256) d1010_4 rfl ?_
  refine je_iceq (pc := 7) 17 d1010_7 (by decide) (fun c7 => ?_) (fun c7 => ?_)
  · refine je_iconst (pc := 17) (v := 0) d1010_17 rfl ?_
    refine ju_istore3 (pc := 18) (lv' := [some _, some _, some _, some _, none]) d1010_18 rfl rfl ?_
    refine je_aload0 (pc := 19) d1010_19 rfl ?_
    refine ju_geti (pc := 20) d1010_20 jF_1_28 rfl (sK2 H) ?_
    refine ju_eqi (v := nI b) A.2.1 ?_
    refine ju_istore (pc := 23) (lv' := [some _, some _, some _, some _, some _]) d1010_23 rfl rfl ?_
    obtain ⟨hbN, hd⟩ := (tkS_256 hT).mp c7
    refine je_loop (σ := Unit) (fv5 (dgs (h.2.1 3) N b)) (fun k xx => [some (.ref 2), some (.int lo), some (.int hi), some (.int (nI (vlN (h.2.1 3) b k))), some (.int (nI (b + k)))]) (fun _ _ h' => h' = h) (fun k xx h' hk e kk => ?_) (fun xx h' e => ?_) (0) () h (by omega) rfl
    · obtain rfl := e.symm
      have k5 : k < 5 := by unfold fv5 at hk; split at hk <;> omega
      have d1 := dgN_e (dgs_in hbN hd (j := k) (by unfold fv5 at hk; split at hk <;> omega)).2
      have vl := vl_lt (T := h.2.1 3) (b := b) (k := k) (fun j hj => (dgN_e (dgs_in hbN hd (j := j) (by unfold fv5 at hk; split at hk <;> omega)).2).1)
      have vp : 10 ^ k ≤ 10 ^ 5 := Nat.pow_le_pow_right (by decide) (by unfold fv5 at hk; split at hk <;> omega)
      have ke : b + k < tkE (h.2.1 3) N b := by unfold fv5 dgs at hk; split at hk <;> omega
      refine je_iload (pc := 25) d1010_25 rfl ?_
      refine je_aload0 (pc := 27) d1010_27 rfl ?_
      refine ju_geti (pc := 28) d1010_28 jF_1_19 rfl (sK2 H) ?_
      refine ju_eqi (v := nI (tkE (h.2.1 3) N b)) A.2.2.1 ?_
      refine jn_icge (pc := 31) (a := (b + k)) (b := (tkE (h.2.1 3) N b)) 67 d1010_31 (by decide) (by omega) (by omega) (fun c31 => by exfalso; omega) (fun c31 => ?_)
      refine je_iload (pc := 34) d1010_34 rfl ?_
      refine je_aload0 (pc := 36) d1010_36 rfl ?_
      refine ju_geti (pc := 37) d1010_37 jF_1_28 rfl (sK2 H) ?_
      refine ju_eqi (v := nI b) A.2.1 ?_
      refine je_iconst (pc := 40) (v := 5) d1010_40 rfl ?_
      refine je_iadd (pc := 41) d1010_41 ?_
      refine ju_eqi (v := nI ((b) + 5)) (nI_add (b) 5) ?_
      refine jn_icge (pc := 42) (a := (b + k)) (b := ((b) + 5)) 67 d1010_42 (by decide) (by omega) (by omega) (fun c42 => by exfalso; omega) (fun c42 => ?_)
      refine je_iload3 (pc := 45) d1010_45 rfl ?_
      refine je_bipush (pc := 46) (v := 10) d1010_46 rfl ?_
      refine je_imul (pc := 48) d1010_48 ?_
      refine ju_eqi (v := nI ((vlN (h.2.1 3) b k) * 10)) (pk_mul (vlN (h.2.1 3) b k) 10) ?_
      refine je_aload0 (pc := 49) d1010_49 rfl ?_
      refine ju_getr (pc := 50) (b := 3) d1010_50 jF_1_9 rfl (sK2 H) (sR2_0 H) ?_
      refine je_iload (pc := 53) d1010_53 rfl ?_
      refine ju_iald (pc := 55) (jn := (b + k)) d1010_55 (sK3 H) (vp_in_nI (by omega) (by decide)) (nI_clamp (by omega)) ?_
      refine ju_eqi (v := nI (48 + dgN (h.2.1 3) (b + k))) d1.2 ?_
      refine je_iadd (pc := 56) d1010_56 ?_
      refine ju_eqi (v := nI (((vlN (h.2.1 3) b k) * 10) + (48 + dgN (h.2.1 3) (b + k)))) (nI_add ((vlN (h.2.1 3) b k) * 10) (48 + dgN (h.2.1 3) (b + k))) ?_
      refine je_bipush (pc := 57) (v := 48) d1010_57 rfl ?_
      refine je_isub (pc := 59) d1010_59 ?_
      refine ju_eqi (v := nI ((((vlN (h.2.1 3) b k) * 10) + (48 + dgN (h.2.1 3) (b + k))) - 48)) (pk_sub (a := (((vlN (h.2.1 3) b k) * 10) + (48 + dgN (h.2.1 3) (b + k)))) (b := 48) (by omega)) ?_
      refine ju_istore3 (pc := 60) (lv' := [some _, some _, some _, some _, some _]) d1010_60 rfl rfl ?_
      refine ju_incN (pc := 61) (v := nI ((b + k) + 1)) (lv' := [some _, some _, some _, some _, some _]) d1010_61 rfl (nI_1 (b + k)) rfl ?_
      refine je_goto (pc := 64) 25 d1010_64 (by decide) ?_
      have := kk () _ rfl
      rw [vlN] at this
      rw [show vlN (h.2.1 3) b k * 10 + (48 + dgN (h.2.1 3) (b + k)) - 48 = vlN (h.2.1 3) b k * 10 + dgN (h.2.1 3) (b + k) by omega]
      exact this
    · obtain rfl := e.symm
      have f5 : fv5 (dgs (h.2.1 3) N b) ≤ 5 := by unfold fv5; split <;> omega
      have f6 : fv5 (dgs (h.2.1 3) N b) ≤ dgs (h.2.1 3) N b := by unfold fv5; split <;> omega
      have f7 : ¬ (fv5 (dgs (h.2.1 3) N b) < dgs (h.2.1 3) N b ∧ fv5 (dgs (h.2.1 3) N b) < 5) := by unfold fv5; split <;> omega
      have vl := vl_lt (T := h.2.1 3) (b := b) (k := fv5 (dgs (h.2.1 3) N b)) (fun j hj => (dgN_e (dgs_in hbN hd (j := j) (by omega)).2).1)
      have vp : 10 ^ fv5 (dgs (h.2.1 3) N b) ≤ 10 ^ 5 := Nat.pow_le_pow_right (by decide) f5
      have de : dgs (h.2.1 3) N b = tkE (h.2.1 3) N b - b := rfl
      refine je_iload (pc := 25) d1010_25 rfl ?_
      refine je_aload0 (pc := 27) d1010_27 rfl ?_
      refine ju_geti (pc := 28) d1010_28 jF_1_19 rfl (sK2 H) ?_
      refine ju_eqi (v := nI (tkE (h.2.1 3) N b)) A.2.2.1 ?_
      refine jn_icge (pc := 31) (a := (b + (fv5 (dgs (h.2.1 3) N b)))) (b := (tkE (h.2.1 3) N b)) 67 d1010_31 (by decide) (by omega) (by omega) (fun c31 => ?_) (fun c31 => ?_)
      · refine je_aload0 (pc := 67) d1010_67 rfl ?_
        refine ju_geti (pc := 68) d1010_68 jF_1_19 rfl (sK2 H) ?_
        refine ju_eqi (v := nI (tkE (h.2.1 3) N b)) A.2.2.1 ?_
        refine je_aload0 (pc := 71) d1010_71 rfl ?_
        refine ju_geti (pc := 72) d1010_72 jF_1_28 rfl (sK2 H) ?_
        refine ju_eqi (v := nI b) A.2.1 ?_
        refine je_isub (pc := 75) d1010_75 ?_
        refine ju_eqi (v := nI ((tkE (h.2.1 3) N b) - (b))) (pk_sub (a := (tkE (h.2.1 3) N b)) (b := (b)) (by omega)) ?_
        refine je_iconst (pc := 76) (v := 5) d1010_76 rfl ?_
        refine jn_icgt (pc := 77) (a := ((tkE (h.2.1 3) N b) - (b))) (b := 5) 90 d1010_77 (by decide) (by omega) (by omega) (fun c77 => ?_) (fun c77 => ?_)
        · refine je_aload0 (pc := 90) d1010_90 rfl ?_
          refine je_iconst (pc := 91) (v := 1) d1010_91 rfl ?_
          refine ju_callv (pc := 92) (as := [_]) d1010_92 jL_1_60 jM_Tx_blame rfl (by decide) (sK2 H) rfl (by exact Nat.le_of_ble_eq_true rfl) (t_Tx_blame (d + 1) (b := b) (c := 1) H A.2.2.2.2 A.2.1 (by decide) (by omega)) (fun r92 h92 q92 => ?_)
          obtain ⟨rfl, eb⟩ := q92
          refine je_iload1 (pc := 95) d1010_95 rfl ?_
          refine je_iret (pc := 96) d1010_96 rfl ?_
          have nk : nbK (h.2.1 3) N b lo hi = some 1 := (by unfold nbK; rw [if_neg (fun z => z ⟨hbN, hd⟩), if_pos (Or.inl (by omega))])
          exact ⟨fun c hc => (by rw [nk] at hc; cases hc; exact ⟨by decide, rfl, eb⟩), fun hc => (by rw [nk] at hc; cases hc)⟩
        · refine je_iload3 (pc := 80) d1010_80 rfl ?_
          refine je_iload1 (pc := 81) d1010_81 rfl ?_
          refine je_iclt (pc := 82) 90 d1010_82 (by decide) (fun c82 => ?_) (fun c82 => ?_)
          · refine je_aload0 (pc := 90) d1010_90 rfl ?_
            refine je_iconst (pc := 91) (v := 1) d1010_91 rfl ?_
            refine ju_callv (pc := 92) (as := [_]) d1010_92 jL_1_60 jM_Tx_blame rfl (by decide) (sK2 H) rfl (by exact Nat.le_of_ble_eq_true rfl) (t_Tx_blame (d + 1) (b := b) (c := 1) H A.2.2.2.2 A.2.1 (by decide) (by omega)) (fun r92 h92 q92 => ?_)
            obtain ⟨rfl, eb⟩ := q92
            refine je_iload1 (pc := 95) d1010_95 rfl ?_
            refine je_iret (pc := 96) d1010_96 rfl ?_
            have nk : nbK (h.2.1 3) N b lo hi = some 1 := (by unfold nbK; rw [if_neg (fun z => z ⟨hbN, hd⟩), if_pos (Or.inr (Or.inl c82))])
            exact ⟨fun c hc => (by rw [nk] at hc; cases hc; exact ⟨by decide, rfl, eb⟩), fun hc => (by rw [nk] at hc; cases hc)⟩
          · refine je_iload3 (pc := 85) d1010_85 rfl ?_
            refine je_iload2 (pc := 86) d1010_86 rfl ?_
            refine ju_icle (pc := 87) 97 d1010_87 (by decide) (fun c87 => ?_) (fun c87 => ?_)
            · refine je_iload3 (pc := 97) d1010_97 rfl ?_
              refine je_iret (pc := 98) d1010_98 rfl ?_
              have nk : nbK (h.2.1 3) N b lo hi = none := by
                unfold nbK
                rw [if_neg (fun z => z ⟨hbN, hd⟩), if_neg (fun z => z.elim (by omega) (fun z => z.elim c82 (fun z => c87 z)))]
              exact ⟨fun c hc => (by rw [nk] at hc; cases hc), fun _ => ⟨rfl, rfl⟩⟩
            · refine je_aload0 (pc := 90) d1010_90 rfl ?_
              refine je_iconst (pc := 91) (v := 1) d1010_91 rfl ?_
              refine ju_callv (pc := 92) (as := [_]) d1010_92 jL_1_60 jM_Tx_blame rfl (by decide) (sK2 H) rfl (by exact Nat.le_of_ble_eq_true rfl) (t_Tx_blame (d + 1) (b := b) (c := 1) H A.2.2.2.2 A.2.1 (by decide) (by omega)) (fun r92 h92 q92 => ?_)
              obtain ⟨rfl, eb⟩ := q92
              refine je_iload1 (pc := 95) d1010_95 rfl ?_
              refine je_iret (pc := 96) d1010_96 rfl ?_
              have nk : nbK (h.2.1 3) N b lo hi = some 1 := (by unfold nbK; rw [if_neg (fun z => z ⟨hbN, hd⟩), if_pos (Or.inr (Or.inr c87))])
              exact ⟨fun c hc => (by rw [nk] at hc; cases hc; exact ⟨by decide, rfl, eb⟩), fun hc => (by rw [nk] at hc; cases hc)⟩
      · refine je_iload (pc := 34) d1010_34 rfl ?_
        refine je_aload0 (pc := 36) d1010_36 rfl ?_
        refine ju_geti (pc := 37) d1010_37 jF_1_28 rfl (sK2 H) ?_
        refine ju_eqi (v := nI b) A.2.1 ?_
        refine je_iconst (pc := 40) (v := 5) d1010_40 rfl ?_
        refine je_iadd (pc := 41) d1010_41 ?_
        refine ju_eqi (v := nI ((b) + 5)) (nI_add (b) 5) ?_
        refine jn_icge (pc := 42) (a := (b + (fv5 (dgs (h.2.1 3) N b)))) (b := ((b) + 5)) 67 d1010_42 (by decide) (by omega) (by omega) (fun c42 => ?_) (fun c42 => by exfalso; omega)
        refine je_aload0 (pc := 67) d1010_67 rfl ?_
        refine ju_geti (pc := 68) d1010_68 jF_1_19 rfl (sK2 H) ?_
        refine ju_eqi (v := nI (tkE (h.2.1 3) N b)) A.2.2.1 ?_
        refine je_aload0 (pc := 71) d1010_71 rfl ?_
        refine ju_geti (pc := 72) d1010_72 jF_1_28 rfl (sK2 H) ?_
        refine ju_eqi (v := nI b) A.2.1 ?_
        refine je_isub (pc := 75) d1010_75 ?_
        refine ju_eqi (v := nI ((tkE (h.2.1 3) N b) - (b))) (pk_sub (a := (tkE (h.2.1 3) N b)) (b := (b)) (by omega)) ?_
        refine je_iconst (pc := 76) (v := 5) d1010_76 rfl ?_
        refine jn_icgt (pc := 77) (a := ((tkE (h.2.1 3) N b) - (b))) (b := 5) 90 d1010_77 (by decide) (by omega) (by omega) (fun c77 => ?_) (fun c77 => ?_)
        · refine je_aload0 (pc := 90) d1010_90 rfl ?_
          refine je_iconst (pc := 91) (v := 1) d1010_91 rfl ?_
          refine ju_callv (pc := 92) (as := [_]) d1010_92 jL_1_60 jM_Tx_blame rfl (by decide) (sK2 H) rfl (by exact Nat.le_of_ble_eq_true rfl) (t_Tx_blame (d + 1) (b := b) (c := 1) H A.2.2.2.2 A.2.1 (by decide) (by omega)) (fun r92 h92 q92 => ?_)
          obtain ⟨rfl, eb⟩ := q92
          refine je_iload1 (pc := 95) d1010_95 rfl ?_
          refine je_iret (pc := 96) d1010_96 rfl ?_
          have nk : nbK (h.2.1 3) N b lo hi = some 1 := (by unfold nbK; rw [if_neg (fun z => z ⟨hbN, hd⟩), if_pos (Or.inl (by omega))])
          exact ⟨fun c hc => (by rw [nk] at hc; cases hc; exact ⟨by decide, rfl, eb⟩), fun hc => (by rw [nk] at hc; cases hc)⟩
        · refine je_iload3 (pc := 80) d1010_80 rfl ?_
          refine je_iload1 (pc := 81) d1010_81 rfl ?_
          refine je_iclt (pc := 82) 90 d1010_82 (by decide) (fun c82 => ?_) (fun c82 => ?_)
          · refine je_aload0 (pc := 90) d1010_90 rfl ?_
            refine je_iconst (pc := 91) (v := 1) d1010_91 rfl ?_
            refine ju_callv (pc := 92) (as := [_]) d1010_92 jL_1_60 jM_Tx_blame rfl (by decide) (sK2 H) rfl (by exact Nat.le_of_ble_eq_true rfl) (t_Tx_blame (d + 1) (b := b) (c := 1) H A.2.2.2.2 A.2.1 (by decide) (by omega)) (fun r92 h92 q92 => ?_)
            obtain ⟨rfl, eb⟩ := q92
            refine je_iload1 (pc := 95) d1010_95 rfl ?_
            refine je_iret (pc := 96) d1010_96 rfl ?_
            have nk : nbK (h.2.1 3) N b lo hi = some 1 := (by unfold nbK; rw [if_neg (fun z => z ⟨hbN, hd⟩), if_pos (Or.inr (Or.inl c82))])
            exact ⟨fun c hc => (by rw [nk] at hc; cases hc; exact ⟨by decide, rfl, eb⟩), fun hc => (by rw [nk] at hc; cases hc)⟩
          · refine je_iload3 (pc := 85) d1010_85 rfl ?_
            refine je_iload2 (pc := 86) d1010_86 rfl ?_
            refine ju_icle (pc := 87) 97 d1010_87 (by decide) (fun c87 => ?_) (fun c87 => ?_)
            · refine je_iload3 (pc := 97) d1010_97 rfl ?_
              refine je_iret (pc := 98) d1010_98 rfl ?_
              have nk : nbK (h.2.1 3) N b lo hi = none := by
                unfold nbK
                rw [if_neg (fun z => z ⟨hbN, hd⟩), if_neg (fun z => z.elim (by omega) (fun z => z.elim c82 (fun z => c87 z)))]
              exact ⟨fun c hc => (by rw [nk] at hc; cases hc), fun _ => ⟨rfl, rfl⟩⟩
            · refine je_aload0 (pc := 90) d1010_90 rfl ?_
              refine je_iconst (pc := 91) (v := 1) d1010_91 rfl ?_
              refine ju_callv (pc := 92) (as := [_]) d1010_92 jL_1_60 jM_Tx_blame rfl (by decide) (sK2 H) rfl (by exact Nat.le_of_ble_eq_true rfl) (t_Tx_blame (d + 1) (b := b) (c := 1) H A.2.2.2.2 A.2.1 (by decide) (by omega)) (fun r92 h92 q92 => ?_)
              obtain ⟨rfl, eb⟩ := q92
              refine je_iload1 (pc := 95) d1010_95 rfl ?_
              refine je_iret (pc := 96) d1010_96 rfl ?_
              have nk : nbK (h.2.1 3) N b lo hi = some 1 := (by unfold nbK; rw [if_neg (fun z => z ⟨hbN, hd⟩), if_pos (Or.inr (Or.inr c87))])
              exact ⟨fun c hc => (by rw [nk] at hc; cases hc; exact ⟨by decide, rfl, eb⟩), fun hc => (by rw [nk] at hc; cases hc)⟩
  · refine je_aload0 (pc := 10) d1010_10 rfl ?_
    refine je_iconst (pc := 11) (v := 0) d1010_11 rfl ?_
    refine ju_callv (pc := 12) (as := [_]) d1010_12 jL_1_60 jM_Tx_blame rfl (by decide) (sK2 H) rfl (by exact Nat.le_of_ble_eq_true rfl) (t_Tx_blame (d + 1) (b := b) (c := 0) H A.2.2.2.2 A.2.1 (by decide) (by omega)) (fun r12 h12 q12 => ?_)
    obtain ⟨rfl, eb⟩ := q12
    refine je_iload1 (pc := 15) d1010_15 rfl ?_
    refine je_iret (pc := 16) d1010_16 rfl ?_
    have nk : nbK (h.2.1 3) N b lo hi = some 0 := (by unfold nbK; rw [if_pos (fun z => c7 ((tkS_256 hT).mpr z))])
    exact ⟨fun c hc => (by rw [nk] at hc; cases hc; exact ⟨by decide, rfl, eb⟩), fun hc => (by rw [nk] at hc; cases hc)⟩
