/-! summers -/
def drN (a : Nat) : Nat := (a * 1103515245 + 12345) % 2147483648
def wmN (a : Nat) : Nat := a / 65536 % 10
theorem drN_lt (a : Nat) : drN a < 2 ^ 31 := Nat.mod_lt _ (by decide)
theorem dr_z {a : Nat} (h : a < 2 ^ 31) : (nI a).toInt64 * 1103515245 + 12345 = lN (a * 1103515245 + 12345) := by
  rw [nI_l h]
  show lN a * lN 1103515245 + lN 12345 = _
  rw [lN_mul, lN_add]
theorem dr_c {a : Nat} (h : a < 2 ^ 31) : (((nI a).toInt64 * 1103515245 + 12345) &&& 2147483647).toInt32 = nI (drN a) := by
  rw [dr_z h, show (2147483647 : Int64) = lN (2147483648 - 1) from rfl, g_mask (s := 31) (p := 2147483648) (by decide) (by decide) (by omega), lN_i]
  rfl
theorem dr_m {a : Nat} (h : a < 2 ^ 31) : (((nI a).toInt64 * 1103515245 + 12345) - ((nI a).toInt64 * 1103515245 + 12345) / 2147483648 * 2147483648).toInt32 = nI (drN a) := by
  rw [dr_z h, show (2147483648 : Int64) = lN 2147483648 from rfl, pk_lRem (by omega) (by decide) (by decide), lN_i]
  rfl
theorem wm_d {a : Nat} (h : a < 2 ^ 31) : nI a / 65536 = nI (a / 65536) := pk_div (d := 65536) h (by decide) (by decide)
theorem wm_r {a : Nat} (h : a < 2 ^ 31) : nI (a / 65536) - nI (a / 65536) / 10 * 10 = nI (wmN a) := pk_rem (d := 10) (by omega) (by decide) (by decide)
theorem wmN_le (a : Nat) : wmN a ≤ 9 := by unfold wmN; omega
/-- nights of a summer: land, x, crossings -/
def smS (S : MS) (R : Option MR) (L : ML) (x : Nat) (c : Int32) : Nat → ML × Nat × Int32
  | 0 => (L, x, c)
  | k + 1 => (nightF S R (nI (wmN (drN (smS S R L x c k).2.1))) (smS S R L x c k).1, drN (smS S R L x c k).2.1, (smS S R L x c k).2.2 + nI (cnN S (smS S R L x c k).1.1 (linF S R (nI (wmN (drN (smS S R L x c k).2.1))) (smS S R L x c k).1) S.1.2.1))
theorem sm_x {S : MS} {R : Option MR} {L : ML} {x : Nat} {c : Int32} (h : x < 2 ^ 31) : ∀ k, (smS S R L x c k).2.1 < 2 ^ 31
  | 0 => h
  | k + 1 => drN_lt _
theorem sm_n {S : MS} {R : Option MR} {L : ML} {x nn : Nat} {c : Int32} (h : L.2.2.2.2.2 = nI nn) : ∀ k, (smS S R L x c k).1.2.2.2.2.2 = nI (nn + k)
  | 0 => h
  | k + 1 => by
    show (smS S R L x c k).1.2.2.2.2.2 + 1 = _
    rw [sm_n h k, nI_1]
    rfl
theorem sm_w {S : MS} {R : Option MR} {L : ML} {x n : Nat} {c : Int32} (hmi : S.1.1 ≤ 10) (l : wfL n S.1.1 S.1.2.1 L) : ∀ {k : Nat}, n + k < 100000 → wfL (n + k) S.1.1 S.1.2.1 (smS S R L x c k).1
  | 0, _ => l
  | k + 1, h => by
    refine (sm_w hmi l (k := k) (by omega)).night hmi (show n + k < 100000 by omega) ?_
    have := wmN_le (drN (smS S R L x c k).2.1)
    exact ⟨by rw [nI_toInt (by omega)]; omega, by rw [nI_toInt (by omega)]; omega⟩
def adI (a b : Int32) : Int32 := if b < a then a - b else b - a
def ftI (l0 l : Nat → Int32) (f : Int32) : Nat → Int32
  | 0 => f
  | k + 1 => ftI l0 l f k + adI (l k) (l0 k)
theorem ad_c {a b : Int32} (ha : bdI a (-20) 20) (hb : bdI b (-20) 20) : (if 0 ≤ a - b then a - b else 0 - (a - b)) = adI a b := by
  have h1 := ha.1
  have h2 := ha.2
  have h3 := hb.1
  have h4 := hb.2
  have e1 := tI_sub (x := a) (y := b) (by omega) (by omega) (by omega) (by omega)
  have e2 := tI_sub (x := b) (y := a) (by omega) (by omega) (by omega) (by omega)
  have e3 := tI_sub (x := 0) (y := a - b) (by decide) (by decide) (by omega) (by omega)
  unfold adI
  by_cases c : b < a
  · rw [if_pos c]
    rw [fa_lt] at c
    rw [if_pos]
    rw [fa_le, e1, Int32.toInt_zero]
    omega
  · rw [if_neg c]
    rw [fa_lt] at c
    by_cases z : 0 ≤ a - b
    · rw [if_pos z]
      rw [fa_le, e1, Int32.toInt_zero] at z
      rw [fa_eq, e1, e2]
      omega
    · rw [if_neg z, fa_eq, e3, e2, e1, Int32.toInt_zero]
      omega
/-- summers: x, crossings, feet -/
def smO (S : MS) (R : Option MR) (L : ML) (n x : Nat) : Nat → Nat × Int32 × Int32
  | 0 => (x, 0, 0)
  | i + 1 => ((smS S R L (smO S R L n x i).1 (smO S R L n x i).2.1 n).2.1, (smS S R L (smO S R L n x i).1 (smO S R L n x i).2.1 n).2.2, ftI L.1 (smS S R L (smO S R L n x i).1 (smO S R L n x i).2.1 n).1.1 (smO S R L n x i).2.2 S.1.1)
theorem so_x {S : MS} {R : Option MR} {L : ML} {n x : Nat} (h : x < 2 ^ 31) : ∀ i, (smO S R L n x i).1 < 2 ^ 31
  | 0 => h
  | i + 1 => sm_x (so_x h i) n
set_option maxHeartbeats 4000000 in
theorem ol_sn {d bc bs : Nat} {h : jx_H} {Q : Option Value → jx_H → Prop} {S : MS} {R : Option MR} {L : ML} {nn n x : Nat} {c : Int32} (H : jx_St h) (C : cLaw h S R) (wS : wfS S) (h0 : 0 < S.1.1) (hL : rL h.2.1 68 L) (hN : L.2.2.2.2.2 = nI nn) (hn : n ≤ 60) (hnn : nn + n < 998) (hx : x < 2 ^ 31) (h6 : h.2.1 67 6 = c) (vm vi : Int32) (x6 : Option Value)
  (hK : ∀ h', fC (fun b => b = 65 ∨ 67 ≤ b ∧ b ≤ 72) h h' → rL h'.2.1 68 (smS S R L x c n).1 → h'.2.1 67 6 = (smS S R L x c n).2.2 → (∀ j, j ≠ 6 → h'.2.1 67 j = h.2.1 67 j) → jx_Ev (d + 5) bc bs 9009 100 [some (.ref 67), some (.ref 26), some (.int vm), some (.int (nI n)), some (.int (nI (smS S R L x c n).2.1)), some (.int vi), some (.int (nI n))] [] h' Q) : jx_Ev (d + 5) bc bs 9009 36 [some (.ref 67), some (.ref 26), some (.int vm), some (.int (nI n)), some (.int (nI (smS S R L x c 0).2.1)), some (.int vi), x6] [] h Q := by
  have w8 := wS.2.1
  refine je_iconst (pc := 36) (v := 0) d9009_36 rfl ?_
  refine ju_istore (pc := 37) (lv' := [some _, some _, some _, some _, some _, some _, some _]) d9009_37 rfl rfl ?_
  refine je_loop (σ := Unit) (n) (fun k xx => [some (.ref 67), some (.ref 26), some (.int vm), some (.int (nI n)), some (.int (nI (smS S R L x c k).2.1)), some (.int vi), some (.int (nI k))]) (fun k _ h' => fC (fun b => b = 65 ∨ 67 ≤ b ∧ b ≤ 72) h h' ∧ rL h'.2.1 68 (smS S R L x c k).1 ∧ h'.2.1 67 6 = (smS S R L x c k).2.2 ∧ ∀ j, j ≠ 6 → h'.2.1 67 j = h.2.1 67 j) (fun k xx h' hk e kk => ?_) (fun xx h' e => ?_) (0) () h (by omega) ⟨fC.rf, hL, h6, fun _ _ => rfl⟩
  · obtain ⟨e1, e2, e3, e4⟩ := e
    have H1 := e1.St H
    have C1 := C.fr e1 (fun b hb => olA (by omega))
    refine je_iload (pc := 39) d9009_39 rfl ?_
    refine je_iload3 (pc := 41) d9009_41 rfl ?_
    refine jn_icge (pc := 42) (a := (k)) (b := (n)) 100 d9009_42 (by decide) (by omega) (by omega) (fun c42 => by exfalso; omega) (fun c42 => ?_)
    have xk := sm_x (S := S) (R := R) (L := L) (c := c) hx k
    have xd := drN_lt (smS S R L x c k).2.1
    have wl := wmN_le (drN (smS S R L x c k).2.1)
    refine je_iload (pc := 45) d9009_45 rfl ?_
    refine je_i2l (pc := 47) d9009_47 ?_
    refine je_ldc2 (pc := 48) d9009_48 jK_9_113 ?_
    refine je_lmul (pc := 51) d9009_51 ?_
    refine je_ldc2 (pc := 52) d9009_52 jK_9_115 ?_
    refine je_ladd (pc := 55) d9009_55 ?_
    refine je_ldc2 (pc := 56) d9009_56 jK_9_117 ?_
    refine je_land (pc := 59) d9009_59 ?_
    refine je_l2i (pc := 60) d9009_60 ?_
    refine ju_eqi (v := nI (drN (smS S R L x c k).2.1)) (dr_c xk) ?_
    refine ju_istore (pc := 61) (lv' := [some _, some _, some _, some _, some _, some _, some _]) d9009_61 rfl rfl ?_
    refine je_aload0 (pc := 63) d9009_63 rfl ?_
    refine je_dup (pc := 64) d9009_64 rfl ?_
    refine ju_geti (pc := 65) d9009_65 jF_9_99 rfl (sK67 H1) ?_
    refine ju_eqi (v := (smS S R L x c k).2.2) e3 ?_
    refine je_aload0 (pc := 68) d9009_68 rfl ?_
    refine ju_getr (pc := 69) (b := 51) d9009_69 jF_9_25 rfl (sK67 H1) (sR67_0 H1) ?_
    refine je_aload0 (pc := 72) d9009_72 rfl ?_
    refine ju_getr (pc := 73) (b := 68) d9009_73 jF_9_12 rfl (sK67 H1) (sR67_1 H1) ?_
    refine je_iload (pc := 76) d9009_76 rfl ?_
    refine je_ldc (pc := 78) d9009_78 jK_9_119 ?_
    refine je_idiv (pc := 80) d9009_80 (by decide) ?_
    refine ju_eqi (v := nI (drN (smS S R L x c k).2.1 / 65536)) (wm_d xd) ?_
    refine je_bipush (pc := 81) (v := 10) d9009_81 rfl ?_
    refine je_irem (pc := 83) d9009_83 (by decide) ?_
    refine ju_eqi (v := nI (wmN (drN (smS S R L x c k).2.1))) (wm_r xd) ?_
    refine ju_callv (pc := 84) (as := [_, _]) d9009_84 jL_9_35 jM_Lw_pass rfl (by decide) (sK51 H1) rfl (by exact Nat.le_of_ble_eq_true rfl) (t_Lw_pass (d + 0) (a := 68) H1 C1 wS h0 (Or.inr (Or.inl rfl)) e2 (nn := nn + k) (sm_n hN k) (by omega) (nI (wmN (drN (smS S R L x c k).2.1))) _ rfl) (fun r84 h84 q84 => ?_)
    obtain ⟨rfl, f3, f4⟩ := q84
    rw [if_neg (show ¬ nI (wmN (drN (smS S R L x c k).2.1)) = -1 from fun z => nI_pos (n := wmN (drN (smS S R L x c k).2.1)) (by omega) (by rw [z]; decide))] at f4
    rw [if_neg (show ¬ nI (wmN (drN (smS S R L x c k).2.1)) = -1 from fun z => nI_pos (n := wmN (drN (smS S R L x c k).2.1)) (by omega) (by rw [z]; decide))]
    have H2 := f3.St H1
    refine ju_calls (pc := 87) (as := [_]) d9009_87 jL_9_85 jM_Int_bitCount rfl rfl (by exact Nat.le_of_ble_eq_true rfl) (t_Int_bitCount (d + 3) _) (fun r87 h87 q87 => ?_)
    obtain ⟨rfl, e87⟩ := q87
    obtain rfl := e87.symm
    refine ju_eqi (v := nI (cnN S (smS S R L x c k).1.1 (linF S R (nI (wmN (drN (smS S R L x c k).2.1))) (smS S R L x c k).1) S.1.2.1)) (by rw [bcF_ok _ (Nat.lt_of_lt_of_le (crN_lt S (smS S R L x c k).1.1 (linF S R (nI (wmN (drN (smS S R L x c k).2.1))) (smS S R L x c k).1)) (Nat.le_trans (Nat.pow_le_pow_right (n := 2) (by decide) w8) (by decide))), crN_pop S (smS S R L x c k).1.1 (linF S R (nI (wmN (drN (smS S R L x c k).2.1))) (smS S R L x c k).1) w8]) ?_
    refine je_iadd (pc := 90) d9009_90 ?_
    refine ju_puti (pc := 91) d9009_91 jF_9_99 rfl (sK67 H2) ?_
    refine ju_incN (pc := 94) (v := nI ((k) + 1)) (lv' := [some _, some _, some _, some _, some _, some _, some _]) d9009_94 rfl (nI_1 (k)) rfl ?_
    refine je_goto (pc := 97) 39 d9009_97 (by decide) ?_
    refine kk () _ ⟨(e1.tr (f3.mo (fun b hb => by omega))).wI (by omega), f4.of (fun b h1 h2 => wI_ne _ _ _ (by omega)), by rw [wI_at, jx_up_self]; rfl, fun j hj => by rw [wI_at, jx_up_ne _ _ hj, f3.2 67 (by omega)]; exact e4 j hj⟩
  · obtain ⟨e1, e2, e3, e4⟩ := e
    have H1 := e1.St H
    have C1 := C.fr e1 (fun b hb => olA (by omega))
    refine je_iload (pc := 39) d9009_39 rfl ?_
    refine je_iload3 (pc := 41) d9009_41 rfl ?_
    refine jn_icge (pc := 42) (a := ((n))) (b := (n)) 100 d9009_42 (by decide) (by omega) (by omega) (fun c42 => ?_) (fun c42 => by exfalso; omega)
    exact hK _ e1 e2 e3 e4
set_option maxHeartbeats 4000000 in
theorem ol_sf {d bc bs : Nat} {h : jx_H} {Q : Option Value → jx_H → Prop} {S : MS} {L L2 : ML} {s : Nat} {f : Int32} (H : jx_St h) (hs : h.2.2.2 51 0 = some s) (hsA : sA s) (P : jx_Sp h s) (hS : rS h.2.1 s S) (hmi : S.1.1 ≤ 10) (hL : rL h.2.1 40 L) (hL2 : rL h.2.1 68 L2) (b1 : ∀ m, m < 10 → bdI (L.1 m) (-20) 20) (b2 : ∀ m, m < 10 → bdI (L2.1 m) (-20) 20) (h7 : h.2.1 67 7 = f) (vm vn vx vi : Int32) (x6 : Option Value)
  (hK : ∀ h', fC (fun b => b = 67) h h' → h'.2.1 67 7 = ftI L.1 L2.1 f S.1.1 → (∀ j, j ≠ 7 → h'.2.1 67 j = h.2.1 67 j) → jx_Ev (d + 5) bc bs 9009 157 [some (.ref 67), some (.ref 26), some (.int vm), some (.int vn), some (.int vx), some (.int vi), some (.int (nI S.1.1))] [] h' Q) : jx_Ev (d + 5) bc bs 9009 100 [some (.ref 67), some (.ref 26), some (.int vm), some (.int vn), some (.int vx), some (.int vi), x6] [] h Q := by
  refine je_iconst (pc := 100) (v := 0) d9009_100 rfl ?_
  refine ju_istore (pc := 101) (lv' := [some _, some _, some _, some _, some _, some _, some _]) d9009_101 rfl rfl ?_
  refine je_loop (σ := Unit) (S.1.1) (fun k xx => [some (.ref 67), some (.ref 26), some (.int vm), some (.int vn), some (.int vx), some (.int vi), some (.int (nI k))]) (fun k _ h' => fC (fun b => b = 67) h h' ∧ h'.2.1 67 7 = ftI L.1 L2.1 f k ∧ ∀ j, j ≠ 7 → h'.2.1 67 j = h.2.1 67 j) (fun k xx h' hk e kk => ?_) (fun xx h' e => ?_) (0) () h (by omega) ⟨fC.rf, h7, fun _ _ => rfl⟩
  · obtain ⟨e1, e2, e4⟩ := e
    have H1 := e1.St H
    have P1 := e1.Sp P
    have hs1 := e1.rr hs
    have em : h'.2.1 s 0 = nI S.1.1 := by rw [e1.2 s (by unfold sA at hsA; omega)]; exact hS.1.1
    refine je_iload (pc := 103) d9009_103 rfl ?_
    refine je_aload0 (pc := 105) d9009_105 rfl ?_
    refine ju_getr (pc := 106) (b := 51) d9009_106 jF_9_25 rfl (sK67 H1) (sR67_0 H1) ?_
    refine ju_getr (pc := 109) (b := s) d9009_109 jF_9_64 rfl (sK51 H1) hs1 ?_
    refine ju_geti (pc := 112) d9009_112 jF_9_82 rfl P1.1.1 ?_
    refine ju_eqi (v := nI S.1.1) em ?_
    refine jn_icge (pc := 115) (a := (k)) (b := (S.1.1)) 157 d9009_115 (by decide) (by omega) (by omega) (fun c115 => by exfalso; omega) (fun c115 => ?_)
    refine je_aload0 (pc := 118) d9009_118 rfl ?_
    refine je_dup (pc := 119) d9009_119 rfl ?_
    refine ju_geti (pc := 120) d9009_120 jF_9_102 rfl (sK67 H1) ?_
    refine ju_eqi (v := ftI L.1 L2.1 f k) e2 ?_
    refine je_aload0 (pc := 123) d9009_123 rfl ?_
    refine ju_getr (pc := 124) (b := 68) d9009_124 jF_9_12 rfl (sK67 H1) (sR67_1 H1) ?_
    refine ju_getr (pc := 127) (b := 69) d9009_127 jF_9_120 rfl (sK68 H1) (sR68_0 H1) ?_
    refine je_iload (pc := 130) d9009_130 rfl ?_
    refine ju_iald (pc := 132) (jn := (k)) d9009_132 (sK69 H1) (vp_in_nI (by omega) (by decide)) (nI_clamp (by omega)) ?_
    refine ju_eqi (v := L2.1 k) (by rw [e1.2 69 (by omega)]; exact hL2.1 k (by omega)) ?_
    refine je_aload1 (pc := 133) d9009_133 rfl ?_
    refine ju_getr (pc := 134) (b := 40) d9009_134 jF_9_110 rfl (sK26 H1) (sR26_1 H1) ?_
    refine ju_getr (pc := 137) (b := 41) d9009_137 jF_9_120 rfl (sK40 H1) (sR40_0 H1) ?_
    refine je_iload (pc := 140) d9009_140 rfl ?_
    refine ju_iald (pc := 142) (jn := (k)) d9009_142 (sK41 H1) (vp_in_nI (by omega) (by decide)) (nI_clamp (by omega)) ?_
    refine ju_eqi (v := L.1 k) (by rw [e1.2 41 (by omega)]; exact hL.1 k (by omega)) ?_
    refine je_isub (pc := 143) d9009_143 ?_
    refine je_mabs (pc := 144) d9009_144 jLm_9_123 (by exact Nat.le_of_ble_eq_true rfl) ?_
    refine ju_eqi (v := adI (L2.1 k) (L.1 k)) (ad_c (b2 k (by omega)) (b1 k (by omega))) ?_
    refine je_iadd (pc := 147) d9009_147 ?_
    refine ju_puti (pc := 148) d9009_148 jF_9_102 rfl (sK67 H1) ?_
    refine ju_incN (pc := 151) (v := nI ((k) + 1)) (lv' := [some _, some _, some _, some _, some _, some _, some _]) d9009_151 rfl (nI_1 (k)) rfl ?_
    refine je_goto (pc := 154) 103 d9009_154 (by decide) ?_
    exact kk () _ ⟨e1.wI rfl, by rw [wI_at, jx_up_self]; rfl, fun j hj => by rw [wI_at, jx_up_ne _ _ hj]; exact e4 j hj⟩
  · obtain ⟨e1, e2, e4⟩ := e
    have H1 := e1.St H
    have P1 := e1.Sp P
    have hs1 := e1.rr hs
    have em : h'.2.1 s 0 = nI S.1.1 := by rw [e1.2 s (by unfold sA at hsA; omega)]; exact hS.1.1
    refine je_iload (pc := 103) d9009_103 rfl ?_
    refine je_aload0 (pc := 105) d9009_105 rfl ?_
    refine ju_getr (pc := 106) (b := 51) d9009_106 jF_9_25 rfl (sK67 H1) (sR67_0 H1) ?_
    refine ju_getr (pc := 109) (b := s) d9009_109 jF_9_64 rfl (sK51 H1) hs1 ?_
    refine ju_geti (pc := 112) d9009_112 jF_9_82 rfl P1.1.1 ?_
    refine ju_eqi (v := nI S.1.1) em ?_
    refine jn_icge (pc := 115) (a := ((S.1.1))) (b := (S.1.1)) 157 d9009_115 (by decide) (by omega) (by omega) (fun c115 => ?_) (fun c115 => by exfalso; omega)
    exact hK _ e1 e2 e4
set_option maxHeartbeats 2000000 in
theorem t_Ol_drawSummers (d : Nat) {bc bs : Nat} {h : jx_H} {S : MS} {R : Option MR} {L : ML} {nn : Nat} (H : jx_St h) (C : cLaw h S R) (wS : wfS S) (h0 : 0 < S.1.1) (hL : rL h.2.1 40 L) (hN : L.2.2.2.2.2 = nI nn) {m n x nl : Nat} (h1m : m ≤ 10) (hn : n ≤ 60) (hnn : nn + n < 998) (hx : x < 2 ^ 31) (h3 : h.2.1 26 3 = nI x) (wl : wfL nl S.1.1 S.1.2.1 L) (hnl : nl < 1000) : jx_Tr (d + 5) bc bs 9009 [.ref 67, .ref 26, .int (nI m), .int (nI n)] h (fun r h' => r = none ∧ fC (fun b => b = 65 ∨ 67 ≤ b ∧ b ≤ 72) h h' ∧ h'.2.1 67 6 = (smO S R L n x m).2.1 ∧ h'.2.1 67 7 = (smO S R L n x m).2.2) := by
  refine jx_tr jM_Ol_drawSummers rfl rfl (lv := [some (.ref 67), some (.ref 26), some (.int (nI m)), some (.int (nI n)), none, none, none]) rfl ?_
  have hmi : S.1.1 ≤ 10 := by rcases wS.1 with z | z <;> omega
  refine je_aload0 (pc := 0) d9009_0 rfl ?_
  refine je_iconst (pc := 1) (v := 0) d9009_1 rfl ?_
  refine ju_puti (pc := 2) d9009_2 jF_9_99 rfl (sK67 H) ?_
  refine je_aload0 (pc := 5) d9009_5 rfl ?_
  refine je_iconst (pc := 6) (v := 0) d9009_6 rfl ?_
  refine ju_puti (pc := 7) d9009_7 jF_9_102 rfl (sK67 H.wI) ?_
  refine je_aload1 (pc := 10) d9009_10 rfl ?_
  refine ju_geti (pc := 11) d9009_11 jF_9_105 rfl (sK26 H.wI.wI) ?_
  refine ju_eqi (v := nI x) h3 ?_
  refine ju_istore (pc := 14) (lv' := [some _, some _, some _, some _, some _, none, none]) d9009_14 rfl rfl ?_
  refine je_iconst (pc := 16) (v := 0) d9009_16 rfl ?_
  refine ju_istore (pc := 17) (lv' := [some _, some _, some _, some _, some _, some _, none]) d9009_17 rfl rfl ?_
  refine je_loop (σ := Option Value) (m) (fun k xx => [some (.ref 67), some (.ref 26), some (.int (nI m)), some (.int (nI n)), some (.int (nI (smO S R L n x k).1)), some (.int (nI k)), xx]) (fun k _ h' => fC (fun b => b = 65 ∨ 67 ≤ b ∧ b ≤ 72) h h' ∧ h'.2.1 67 6 = (smO S R L n x k).2.1 ∧ h'.2.1 67 7 = (smO S R L n x k).2.2) (fun k xx h' hk e kk => ?_) (fun xx h' e => ?_) (0) none _ (by omega) ⟨(fC.rf.wI (by omega)).wI (by omega), rfl, rfl⟩
  · obtain ⟨e1, e2, e3⟩ := e
    have H1 := e1.St H
    have C1 := C.fr e1 (fun b hb => olA (by omega))
    refine je_iload (pc := 19) d9009_19 rfl ?_
    refine je_iload2 (pc := 21) d9009_21 rfl ?_
    refine jn_icge (pc := 22) (a := (k)) (b := (m)) 163 d9009_22 (by decide) (by omega) (by omega) (fun c22 => by exfalso; omega) (fun c22 => ?_)
    refine je_aload0 (pc := 25) d9009_25 rfl ?_
    refine ju_getr (pc := 26) (b := 68) d9009_26 jF_9_12 rfl (sK67 H1) (sR67_1 H1) ?_
    refine je_aload1 (pc := 29) d9009_29 rfl ?_
    refine ju_getr (pc := 30) (b := 40) d9009_30 jF_9_110 rfl (sK26 H1) (sR26_1 H1) ?_
    refine ju_callv (pc := 33) (as := [_]) d9009_33 jL_9_29 jM_La_copyFrom rfl (by decide) (sK68 H1) rfl (by exact Nat.le_of_ble_eq_true rfl) (t_La_copyFrom (d + 2) (a := 68) (b := 40) (sL68 H1) (sL40 H1) (by decide)) (fun r33 h33 q33 => ?_)
    obtain ⟨rfl, f1, f2⟩ := q33
    have H2 := f1.St H1
    have C2 := C1.fr f1 (fun b hb => olA (by omega))
    have L0 := f2 L (hL.of (fun b h1 h2 => e1.2 b (by omega)))
    refine ol_sn (S := S) (R := R) (L := L) (x := (smO S R L n x k).1) (c := (smO S R L n x k).2.1) H2 C2 wS h0 L0 hN hn hnn (so_x hx k) (by rw [f1.2 67 (by omega)]; exact e2) _ _ _ (fun h3' g1 g2 g3 g4 => ?_)
    obtain ⟨s, c1, c2, c3, c4, -⟩ := C2.fr g1 (fun b hb => olA (by omega))
    refine ol_sf (L := L) (f := (smO S R L n x k).2.2) (g1.St H2) c1 c2 c3 c4 hmi ((hL.of (fun b h1 h2 => (f1.2 b (by omega)).trans (e1.2 b (by omega)))).of (fun b h1 h2 => g1.2 b (by omega))) g2 (fun m hm => (wl.1 m hm).1) (fun m hm => ((sm_w hmi wl (k := n) (by omega)).1 m hm).1) (by rw [g4 7 (by decide), f1.2 67 (by omega)]; exact e3) _ _ _ _ _ (fun h4' q1 q2 q3 => ?_)
    refine ju_incN (pc := 157) (v := nI ((k) + 1)) (lv' := [some _, some _, some _, some _, some _, some _, _]) d9009_157 rfl (nI_1 (k)) rfl ?_
    refine je_goto (pc := 160) 19 d9009_160 (by decide) ?_
    exact kk (some _) _ ⟨((e1.tr (f1.mo (fun b hb => by omega))).tr g1).tr (q1.mo (fun b hb => by omega)), by rw [q3 6 (by decide)]; exact g3, q2⟩
  · obtain ⟨e1, e2, e3⟩ := e
    have H1 := e1.St H
    have C1 := C.fr e1 (fun b hb => olA (by omega))
    refine je_iload (pc := 19) d9009_19 rfl ?_
    refine je_iload2 (pc := 21) d9009_21 rfl ?_
    refine jn_icge (pc := 22) (a := ((m))) (b := (m)) 163 d9009_22 (by decide) (by omega) (by omega) (fun c22 => ?_) (fun c22 => by exfalso; omega)
    refine je_ret (pc := 163) d9009_163 rfl ?_
    exact ⟨rfl, e1, e2, e3⟩
set_option maxHeartbeats 2000000 in
theorem t_Db_summers_n (d : Nat) {bc bs : Nat} {h : jx_H} {s : Nat} (H : jx_St h) (hr : h.2.2.2 26 0 = some s) (P : jx_Sp h s) (x y z : Int32) (G : ¬ (0 < h.2.1 s 0 ∧ ¬ x < 1 ∧ ¬ 10 < x ∧ ¬ y < 1 ∧ ¬ 60 < y ∧ ¬ z < 0 ∧ ¬ 1 < z)) : jx_Tr (d + 6) bc bs 38 [.ref 1, .int x, .int y, .int z] h (fun r h' => r = some (.int (-1)) ∧ h' = h) := by
  refine jx_tr jM_Db_summers rfl rfl (lv := [some (.ref 1), some (.int x), some (.int y), some (.int z)]) rfl ?_
  refine je_aload0 (pc := 0) d38_0 rfl ?_
  refine ju_callv (pc := 1) (as := []) d38_1 jL_0_169 jM_Db_hasStrip rfl (by decide) (sK1 H) rfl (by exact Nat.le_of_ble_eq_true rfl) (t_Db_hasStrip (d + 4) H hr P) (fun r1 h1 q1 => ?_)
  obtain ⟨rfl, e1⟩ := q1
  obtain rfl := e1.symm
  refine jb_ifeq (pc := 4) 38 d38_4 (by decide) (fun c4 => ?_) (fun c4 => ?_)
  · refine je_iconst (pc := 38) (v := -1) d38_38 rfl ?_
    refine je_iret (pc := 39) d38_39 rfl ?_
    exact ⟨rfl, rfl⟩
  · refine je_iload1 (pc := 7) d38_7 rfl ?_
    refine je_iconst (pc := 8) (v := 1) d38_8 rfl ?_
    refine je_iclt (pc := 9) 38 d38_9 (by decide) (fun c9 => ?_) (fun c9 => ?_)
    · refine je_iconst (pc := 38) (v := -1) d38_38 rfl ?_
      refine je_iret (pc := 39) d38_39 rfl ?_
      exact ⟨rfl, rfl⟩
    · refine je_iload1 (pc := 12) d38_12 rfl ?_
      refine je_bipush (pc := 13) (v := 10) d38_13 rfl ?_
      refine je_icgt (pc := 15) 38 d38_15 (by decide) (fun c15 => ?_) (fun c15 => ?_)
      · refine je_iconst (pc := 38) (v := -1) d38_38 rfl ?_
        refine je_iret (pc := 39) d38_39 rfl ?_
        exact ⟨rfl, rfl⟩
      · refine je_iload2 (pc := 18) d38_18 rfl ?_
        refine je_iconst (pc := 19) (v := 1) d38_19 rfl ?_
        refine je_iclt (pc := 20) 38 d38_20 (by decide) (fun c20 => ?_) (fun c20 => ?_)
        · refine je_iconst (pc := 38) (v := -1) d38_38 rfl ?_
          refine je_iret (pc := 39) d38_39 rfl ?_
          exact ⟨rfl, rfl⟩
        · refine je_iload2 (pc := 23) d38_23 rfl ?_
          refine je_bipush (pc := 24) (v := 60) d38_24 rfl ?_
          refine je_icgt (pc := 26) 38 d38_26 (by decide) (fun c26 => ?_) (fun c26 => ?_)
          · refine je_iconst (pc := 38) (v := -1) d38_38 rfl ?_
            refine je_iret (pc := 39) d38_39 rfl ?_
            exact ⟨rfl, rfl⟩
          · refine je_iload3 (pc := 29) d38_29 rfl ?_
            refine je_iflt (pc := 30) 38 d38_30 (by decide) (fun c30 => ?_) (fun c30 => ?_)
            · refine je_iconst (pc := 38) (v := -1) d38_38 rfl ?_
              refine je_iret (pc := 39) d38_39 rfl ?_
              exact ⟨rfl, rfl⟩
            · refine je_iload3 (pc := 33) d38_33 rfl ?_
              refine je_iconst (pc := 34) (v := 1) d38_34 rfl ?_
              refine ju_icle (pc := 35) 40 d38_35 (by decide) (fun c35 => absurd c35 (fun q => G ⟨c4, c9, c15, c20, c26, c30, q⟩)) (fun c35 => ?_)
              refine je_iconst (pc := 38) (v := -1) d38_38 rfl ?_
              refine je_iret (pc := 39) d38_39 rfl ?_
              exact ⟨rfl, rfl⟩
set_option maxHeartbeats 2000000 in
theorem t_Db_summers (d : Nat) {bc bs : Nat} {h : jx_H} {S : MS} {R : Option MR} {L : ML} {nn : Nat} (H : jx_St h) (C : cLaw h S R) (wS : wfS S) (h0 : 0 < S.1.1) (hL : rL h.2.1 40 L) (hN : L.2.2.2.2.2 = nI nn) {s : Nat} (hr : h.2.2.2 26 0 = some s) (P : jx_Sp h s) (hS : rS h.2.1 s S) {m n x nl : Nat} (z : Int32) (h1m : 1 ≤ m ∧ m ≤ 10) (hn : 1 ≤ n ∧ n ≤ 60) (hnn : nn + n < 998) (hz : ¬ z < 0 ∧ ¬ 1 < z) (hx : x < 2 ^ 31) (h3 : h.2.1 26 3 = nI x) (wl : wfL nl S.1.1 S.1.2.1 L) (hnl : nl < 1000) : jx_Tr (d + 6) bc bs 38 [.ref 1, .int (nI m), .int (nI n), .int z] h (fun r h' => r = some (.int (if z = 0 then (smO S R L n x m).2.1 else (smO S R L n x m).2.2)) ∧ fC (fun b => b = 65 ∨ 67 ≤ b ∧ b ≤ 72) h h') := by
  refine jx_tr jM_Db_summers rfl rfl (lv := [some (.ref 1), some (.int (nI m)), some (.int (nI n)), some (.int z)]) rfl ?_
  have hmi : S.1.1 ≤ 10 := by rcases wS.1 with z | z <;> omega
  refine je_aload0 (pc := 0) d38_0 rfl ?_
  refine ju_callv (pc := 1) (as := []) d38_1 jL_0_169 jM_Db_hasStrip rfl (by decide) (sK1 H) rfl (by exact Nat.le_of_ble_eq_true rfl) (t_Db_hasStrip (d + 4) H hr P) (fun r1 h1 q1 => ?_)
  obtain ⟨rfl, e1⟩ := q1
  obtain rfl := e1.symm
  refine jb_ifeq (pc := 4) 38 d38_4 (by decide) (fun c4 => absurd c4 (fun q => q (by rw [hS.1.1]; exact nI_lt (a := 0) h0 (by omega)))) (fun c4 => ?_)
  refine je_iload1 (pc := 7) d38_7 rfl ?_
  refine je_iconst (pc := 8) (v := 1) d38_8 rfl ?_
  refine jn_iclt (pc := 9) (a := (m)) (b := 1) 38 d38_9 (by decide) (by omega) (by omega) (fun c9 => by exfalso; omega) (fun c9 => ?_)
  refine je_iload1 (pc := 12) d38_12 rfl ?_
  refine je_bipush (pc := 13) (v := 10) d38_13 rfl ?_
  refine jn_icgt (pc := 15) (a := (m)) (b := 10) 38 d38_15 (by decide) (by omega) (by omega) (fun c15 => by exfalso; omega) (fun c15 => ?_)
  refine je_iload2 (pc := 18) d38_18 rfl ?_
  refine je_iconst (pc := 19) (v := 1) d38_19 rfl ?_
  refine jn_iclt (pc := 20) (a := (n)) (b := 1) 38 d38_20 (by decide) (by omega) (by omega) (fun c20 => by exfalso; omega) (fun c20 => ?_)
  refine je_iload2 (pc := 23) d38_23 rfl ?_
  refine je_bipush (pc := 24) (v := 60) d38_24 rfl ?_
  refine jn_icgt (pc := 26) (a := (n)) (b := 60) 38 d38_26 (by decide) (by omega) (by omega) (fun c26 => by exfalso; omega) (fun c26 => ?_)
  refine je_iload3 (pc := 29) d38_29 rfl ?_
  refine je_iflt (pc := 30) 38 d38_30 (by decide) (fun c30 => absurd c30 hz.1) (fun c30 => ?_)
  refine je_iload3 (pc := 33) d38_33 rfl ?_
  refine je_iconst (pc := 34) (v := 1) d38_34 rfl ?_
  refine ju_icle (pc := 35) 40 d38_35 (by decide) (fun c35 => ?_) (fun c35 => absurd c35 hz.2)
  refine je_aload0 (pc := 40) d38_40 rfl ?_
  refine ju_getr (pc := 41) (b := 67) d38_41 jF_0_65 rfl (sK1 H) (sR1_9 H) ?_
  refine je_aload0 (pc := 44) d38_44 rfl ?_
  refine ju_getr (pc := 45) (b := 26) d38_45 jF_0_41 rfl (sK1 H) (sR1_5 H) ?_
  refine je_iload1 (pc := 48) d38_48 rfl ?_
  refine je_iload2 (pc := 49) d38_49 rfl ?_
  refine ju_callv (pc := 50) (as := [_, _, _]) d38_50 jL_0_301 jM_Ol_drawSummers rfl (by decide) (sK67 H) rfl (by exact Nat.le_of_ble_eq_true rfl) (t_Ol_drawSummers d H C wS h0 hL hN h1m.2 hn.2 hnn hx h3 wl hnl) (fun r50 h50 q50 => ?_)
  obtain ⟨rfl, f1, f2, f3⟩ := q50
  have H2 := f1.St H
  refine je_iload3 (pc := 53) d38_53 rfl ?_
  refine je_ifne (pc := 54) 67 d38_54 (by decide) (fun c54 => ?_) (fun c54 => ?_)
  · refine je_aload0 (pc := 67) d38_67 rfl ?_
    refine ju_getr (pc := 68) (b := 67) d38_68 jF_0_65 rfl (sK1 H2) (sR1_9 H2) ?_
    refine ju_geti (pc := 71) d38_71 jF_0_308 rfl (sK67 H2) ?_
    refine ju_eqi (v := (smO S R L n x m).2.2) f3 ?_
    refine je_iret (pc := 74) d38_74 rfl ?_
    exact ⟨by rw [if_neg c54], f1⟩
  · refine je_aload0 (pc := 57) d38_57 rfl ?_
    refine ju_getr (pc := 58) (b := 67) d38_58 jF_0_65 rfl (sK1 H2) (sR1_9 H2) ?_
    refine ju_geti (pc := 61) d38_61 jF_0_305 rfl (sK67 H2) ?_
    refine ju_eqi (v := (smO S R L n x m).2.1) f2 ?_
    refine je_goto (pc := 64) 74 d38_64 (by decide) ?_
    refine je_iret (pc := 74) d38_74 rfl ?_
    exact ⟨by rw [if_pos c54], f1⟩
set_option maxHeartbeats 2000000 in
theorem t_Mo_copies (d : Nat) {bc bs : Nat} {h : jx_H} {a b na nb : Nat} (Ba : h.1[a]? = some (.inl (1, na))) (Bb : h.1[b]? = some (.inl (1, nb))) (hab : a ≠ b) (hna : na ≤ nb) (hnb : nb < 100000) : jx_Tr (d + 1) bc bs 12024 [.ref a, .ref b] h (fun r h' => r = none ∧ fC (fun c => c = b) h h' ∧ ∀ j, j < na → h'.2.1 b j = h.2.1 a j) := by
  refine jx_tr jM_Mo_copies rfl rfl (lv := [some (.ref a), some (.ref b), none]) rfl ?_
  refine je_iconst (pc := 0) (v := 0) d12024_0 rfl ?_
  refine ju_istore2 (pc := 1) (lv' := [some _, some _, some _]) d12024_1 rfl rfl ?_
  refine je_loop (σ := Unit) (na) (fun k xx => [some (.ref a), some (.ref b), some (.int (nI k))]) (fun k _ h' => fC (fun c => c = b) h h' ∧ ∀ j, j < k → h'.2.1 b j = h.2.1 a j) (fun k xx h' hk e kk => ?_) (fun xx h' e => ?_) (0) () h (by omega) ⟨fC.rf, fun j hj => absurd hj (Nat.not_lt_zero j)⟩
  · obtain ⟨e1, e2⟩ := e
    have Ba1 : h'.1[a]? = some (.inl (1, na)) := by rw [e1.1.1]; exact Ba
    have Bb1 : h'.1[b]? = some (.inl (1, nb)) := by rw [e1.1.1]; exact Bb
    refine je_iload2 (pc := 2) d12024_2 rfl ?_
    refine je_aload0 (pc := 3) d12024_3 rfl ?_
    refine je_alen (pc := 4) d12024_4 Ba1 (by decide) ?_
    refine jn_icge (pc := 5) (a := (k)) (b := na) 20 d12024_5 (by decide) (by omega) (by omega) (fun c5 => by exfalso; omega) (fun c5 => ?_)
    refine je_aload1 (pc := 8) d12024_8 rfl ?_
    refine je_iload2 (pc := 9) d12024_9 rfl ?_
    refine je_aload0 (pc := 10) d12024_10 rfl ?_
    refine je_iload2 (pc := 11) d12024_11 rfl ?_
    refine ju_iald (pc := 12) (jn := (k)) d12024_12 Ba1 (vp_in_nI (by omega) (by omega)) (nI_clamp (by omega)) ?_
    refine ju_eqi (v := h.2.1 a k) (by rw [e1.2 a hab]) ?_
    refine ju_iast (pc := 13) (jn := (k)) d12024_13 Bb1 (vp_in_nI (by omega) (by omega)) (nI_clamp (by omega)) ?_
    refine ju_incN (pc := 14) (v := nI ((k) + 1)) (lv' := [some _, some _, some _]) d12024_14 rfl (nI_1 (k)) rfl ?_
    refine je_goto (pc := 17) 2 d12024_17 (by decide) ?_
    refine kk () _ ⟨e1.wI rfl, fun j hj => ?_⟩
    rw [wI_at]
    by_cases c : j = k
    · subst c; rw [jx_up_self]
    · rw [jx_up_ne _ _ c]; exact e2 j (by omega)
  · obtain ⟨e1, e2⟩ := e
    have Ba1 : h'.1[a]? = some (.inl (1, na)) := by rw [e1.1.1]; exact Ba
    have Bb1 : h'.1[b]? = some (.inl (1, nb)) := by rw [e1.1.1]; exact Bb
    refine je_iload2 (pc := 2) d12024_2 rfl ?_
    refine je_aload0 (pc := 3) d12024_3 rfl ?_
    refine je_alen (pc := 4) d12024_4 Ba1 (by decide) ?_
    refine jn_icge (pc := 5) (a := ((na))) (b := na) 20 d12024_5 (by decide) (by omega) (by omega) (fun c5 => ?_) (fun c5 => by exfalso; omega)
    refine je_ret (pc := 20) d12024_20 rfl ?_
    exact ⟨rfl, e1, e2⟩
set_option maxHeartbeats 2000000 in
theorem t_Mo_draws (d : Nat) {bc bs : Nat} {h : jx_H} {x : Nat} (H : jx_St h) (hx : x < 2 ^ 31) (h7 : h.2.1 254 7 = nI x) : jx_Tr (d + 1) bc bs 12109 [.ref 253, .int 10] h (fun r h' => r = some (.int (nI (wmN (drN x)))) ∧ h' = jx_wI h 254 7 (nI (drN x))) := by
  refine jx_tr jM_Mo_draws rfl rfl (lv := [some (.ref 253), some (.int 10)]) rfl ?_
  refine je_aload0 (pc := 0) d12109_0 rfl ?_
  refine ju_getr (pc := 1) (b := 254) d12109_1 jF_12_9 rfl (sK253 H) (sR253_1 H) ?_
  refine je_bipush (pc := 4) (v := 7) d12109_4 rfl ?_
  refine je_aload0 (pc := 6) d12109_6 rfl ?_
  refine ju_getr (pc := 7) (b := 254) d12109_7 jF_12_9 rfl (sK253 H) (sR253_1 H) ?_
  refine je_bipush (pc := 10) (v := 7) d12109_10 rfl ?_
  refine ju_iald (pc := 12) (jn := 7) d12109_12 (sK254 H) (by first | assumption | exact jx_ok_dec (by decide)) (by decide) ?_
  refine ju_eqi (v := nI x) h7 ?_
  refine je_i2l (pc := 13) d12109_13 ?_
  refine je_ldc2 (pc := 14) d12109_14 jK_12_549 ?_
  refine je_lmul (pc := 17) d12109_17 ?_
  refine je_ldc2 (pc := 18) d12109_18 jK_12_551 ?_
  refine je_ladd (pc := 21) d12109_21 ?_
  refine je_ldc2 (pc := 22) d12109_22 jK_12_553 ?_
  refine je_lrem (pc := 25) d12109_25 (by decide) ?_
  refine je_l2i (pc := 26) d12109_26 ?_
  refine ju_eqi (v := nI (drN x)) (dr_m hx) ?_
  refine ju_iast (pc := 27) (jn := 7) d12109_27 (sK254 H) (by first | assumption | exact jx_ok_dec (by decide)) (by decide) ?_
  refine je_aload0 (pc := 28) d12109_28 rfl ?_
  refine ju_getr (pc := 29) (b := 254) d12109_29 jF_12_9 rfl (sK253 H.wI) (sR253_1 H.wI) ?_
  refine je_bipush (pc := 32) (v := 7) d12109_32 rfl ?_
  refine ju_iald (pc := 34) (jn := 7) d12109_34 (sK254 H.wI) (by first | assumption | exact jx_ok_dec (by decide)) (by decide) ?_
  refine ju_eqi (v := nI (drN x)) (by rw [wI_at, jx_up_self]) ?_
  refine je_ldcw (pc := 35) d12109_35 jK_12_555 ?_
  refine je_idiv (pc := 38) d12109_38 (by decide) ?_
  refine ju_eqi (v := nI (drN x / 65536)) (wm_d (drN_lt x)) ?_
  refine je_iload1 (pc := 39) d12109_39 rfl ?_
  refine je_irem (pc := 40) d12109_40 (by decide) ?_
  refine ju_eqi (v := nI (wmN (drN x))) (wm_r (drN_lt x)) ?_
  refine je_iret (pc := 41) d12109_41 rfl ?_
  exact ⟨rfl, rfl⟩
theorem cyB_fr {h h' : jx_H} (c : cyB h h' 4400 5) : fC (fun b => (253 ≤ b ∧ b ≤ 257) ∨ b = 262) h h' := c.1.mo (fun b hb => by
  rcases hb with rfl | ⟨t, ht, rfl⟩
  · omega
  · rcases (show t = 0 ∨ t = 1 ∨ t = 2 ∨ t = 3 ∨ t = 4 by omega) with rfl | rfl | rfl | rfl | rfl <;> decide)
set_option maxHeartbeats 2000000 in
theorem t_Mo_laysBack_f (d : Nat) {bc bs : Nat} {h : jx_H} {g : jx_H} {L L0 : ML} (H : jx_St h) (k : mLk g h L) (l : mLa g.2.1 L0) : jx_Tr (d + 3) bc bs 12083 [.ref 253] h (fun r h' => r = none ∧ mLk g h' L0 ∧ (∀ j, j < 9 → h'.2.1 254 j = g.2.1 254 j) ∧ fC (fun b => (253 ≤ b ∧ b ≤ 257) ∨ b = 262) h h') := by
  refine jx_tr jM_Mo_laysBack rfl rfl (lv := [some (.ref 253)]) rfl ?_
  refine je_aload0 (pc := 0) d12083_0 rfl ?_
  refine je_iconst (pc := 1) (v := 4) d12083_1 rfl ?_
  refine je_iconst (pc := 2) (v := 1) d12083_2 rfl ?_
  refine ju_callv (pc := 3) (as := [_, _]) d12083_3 jL_12_475 jM_Mo_carriesAll rfl (by decide) (sK253 H) rfl (by exact Nat.le_of_ble_eq_true rfl) (t_Mo_carriesAll_4b d (q := 4400) H rfl) (fun r3 h3 q3 => ?_)
  obtain ⟨rfl, f1⟩ := q3
  refine je_ret (pc := 6) d12083_6 rfl ?_
  exact ⟨rfl, (cyB_kpt k l f1).1, (cyB_kpt k l f1).2, cyB_fr f1⟩
set_option maxHeartbeats 4000000 in
theorem mo_sn {d bc bs : Nat} {g h : jx_H} {Q : Option Value → jx_H → Prop} {S : MS} {R : Option MR} {L : ML} {nn n x : Nat} {c : Int32} (H : jx_St g) (C : mLaw g S R) (wS : wfS S) (h0 : 0 < S.1.1) (hmi : S.1.1 ≤ 10) (hN : L.2.2.2.2.2 = nI nn) (hn : n ≤ 60) (hx : x < 2 ^ 31) (k0 : mLk g h L) (h7 : h.2.1 254 7 = nI x) (v1 v3 v4 v5 v7 v8 : Int32) (x9 : Option Value)
  (hK : ∀ h', mLk g h' (smS S R L x c n).1 → h'.2.1 254 7 = nI (smS S R L x c n).2.1 → h'.2.1 301 = h.2.1 301 → jx_Ev (d + 7) bc bs 12108 125 [some (.ref 253), some (.int v1), some (.int (nI n)), some (.int v3), some (.int v4), some (.int v5), some (.int (smS S R L x c n).2.2), some (.int v7), some (.int v8), some (.int (nI n))] [] h' Q) : jx_Ev (d + 7) bc bs 12108 95 [some (.ref 253), some (.int v1), some (.int (nI n)), some (.int v3), some (.int v4), some (.int v5), some (.int (smS S R L x c 0).2.2), some (.int v7), some (.int v8), x9] [] h Q := by
  refine je_iconst (pc := 95) (v := 0) d12108_95 rfl ?_
  refine ju_istore (pc := 96) (lv' := [some _, some _, some _, some _, some _, some _, some _, some _, some _, some _]) d12108_96 rfl rfl ?_
  refine je_loop (σ := Unit) (n) (fun k xx => [some (.ref 253), some (.int v1), some (.int (nI n)), some (.int v3), some (.int v4), some (.int v5), some (.int (smS S R L x c k).2.2), some (.int v7), some (.int v8), some (.int (nI k))]) (fun k _ h' => mLk g h' (smS S R L x c k).1 ∧ h'.2.1 254 7 = nI (smS S R L x c k).2.1 ∧ h'.2.1 301 = h.2.1 301) (fun k xx h' hk e kk => ?_) (fun xx h' e => ?_) (0) () h (by omega) ⟨k0, h7, rfl⟩
  · obtain ⟨e1, e2, e3⟩ := e
    have H1 := e1.St H
    refine je_iload (pc := 98) d12108_98 rfl ?_
    refine je_iload2 (pc := 100) d12108_100 rfl ?_
    refine jn_icge (pc := 101) (a := (k)) (b := (n)) 125 d12108_101 (by decide) (by omega) (by omega) (fun c101 => by exfalso; omega) (fun c101 => ?_)
    refine je_iload (pc := 104) d12108_104 rfl ?_
    refine je_aload0 (pc := 106) d12108_106 rfl ?_
    refine je_aload0 (pc := 107) d12108_107 rfl ?_
    refine je_bipush (pc := 108) (v := 10) d12108_108 rfl ?_
    refine ju_callv (pc := 110) (as := [_]) d12108_110 jL_12_558 jM_Mo_draws rfl (by decide) (sK253 H1) rfl (by exact Nat.le_of_ble_eq_true rfl) (t_Mo_draws (d + 5) H1 (sm_x (S := S) (R := R) (L := L) (c := c) hx k) e2) (fun r110 h110 q110 => ?_)
    obtain ⟨rfl, e110⟩ := q110
    obtain rfl := e110.symm
    have k2 := e1.fr (fC.rf.wI (A := fun b => b = 254) (a := 254) (k := 7) (v := nI (drN (smS S R L x c k).2.1)) rfl) (fun b hb => by omega) (fun j hj => by rw [wI_at, jx_up_ne _ _ (by omega)]) (e1.2.2.2.of (wI_ne _ _ _ (by decide)) (wI_ne _ _ _ (by decide)) (wI_ne _ _ _ (by decide)) (wI_ne _ _ _ (by decide)) (by rw [wI_at, jx_up_ne _ _ (by decide)]) (by rw [wI_at, jx_up_ne _ _ (by decide)]))
    refine ju_callv (pc := 113) (as := [_]) d12108_113 jL_12_436 jM_Mo_nightOf rfl (by decide) (sK253 H1.wI) rfl (by exact Nat.le_of_ble_eq_true rfl) (t_Mo_nightOf d (k2.St H) (k2.law C) wS h0 hmi k2.2.2.2 _) (fun r113 h113 q113 => ?_)
    obtain ⟨rfl, f1, f2⟩ := q113
    refine je_iadd (pc := 116) d12108_116 ?_
    refine ju_istore (pc := 117) (lv' := [some _, some _, some _, some _, some _, some _, some _, some _, some _, some _]) d12108_117 rfl rfl ?_
    refine ju_incN (pc := 119) (v := nI ((k) + 1)) (lv' := [some _, some _, some _, some _, some _, some _, some _, some _, some _, some _]) d12108_119 rfl (nI_1 (k)) rfl ?_
    refine je_goto (pc := 122) 98 d12108_122 (by decide) ?_
    exact kk () _ ⟨k2.N f1 f2, by rw [f1.2 7 (by decide), wI_at, jx_up_self]; rfl, by rw [f1.1.2 301 (by omega), wI_ne _ _ _ (by decide)]; exact e3⟩
  · obtain ⟨e1, e2, e3⟩ := e
    have H1 := e1.St H
    refine je_iload (pc := 98) d12108_98 rfl ?_
    refine je_iload2 (pc := 100) d12108_100 rfl ?_
    refine jn_icge (pc := 101) (a := ((n))) (b := (n)) 125 d12108_101 (by decide) (by omega) (by omega) (fun c101 => ?_) (fun c101 => by exfalso; omega)
    exact hK _ e1 e2 e3
set_option maxHeartbeats 4000000 in
theorem mo_sf {d bc bs : Nat} {h : jx_H} {Q : Option Value → jx_H → Prop} {S : MS} {L L2 : ML} {f : Int32} (H : jx_St h) (hS : mSt h.2.1 S) (hmi : S.1.1 ≤ 10) (hL2 : mLa h.2.1 L2) (hw : ∀ m, m < 10 → h.2.1 301 m = L.1 m) (v1 v2 v3 v4 v5 v6 v8 : Int32) (x9 : Option Value)
  (hK : jx_Ev (d + 7) bc bs 12108 200 [some (.ref 253), some (.int v1), some (.int v2), some (.int v3), some (.int v4), some (.int v5), some (.int v6), some (.int (ftI L.1 L2.1 f S.1.1)), some (.int v8), some (.int (nI S.1.1))] [] h Q) : jx_Ev (d + 7) bc bs 12108 125 [some (.ref 253), some (.int v1), some (.int v2), some (.int v3), some (.int v4), some (.int v5), some (.int v6), some (.int f), some (.int v8), x9] [] h Q := by
  refine je_iconst (pc := 125) (v := 0) d12108_125 rfl ?_
  refine ju_istore (pc := 126) (lv' := [some _, some _, some _, some _, some _, some _, some _, some _, some _, some _]) d12108_126 rfl rfl ?_
  refine je_loop (σ := Unit) (S.1.1) (fun k xx => [some (.ref 253), some (.int v1), some (.int v2), some (.int v3), some (.int v4), some (.int v5), some (.int v6), some (.int (ftI L.1 L2.1 f k)), some (.int v8), some (.int (nI k))]) (fun _ _ h' => h' = h) (fun k xx h' hk e kk => ?_) (fun xx h' e => ?_) (0) () h (by omega) rfl
  · obtain rfl := e.symm
    refine je_iload (pc := 128) d12108_128 rfl ?_
    refine je_aload0 (pc := 130) d12108_130 rfl ?_
    refine ju_getr (pc := 131) (b := 254) d12108_131 jF_12_9 rfl (sK253 H) (sR253_1 H) ?_
    refine je_iconst (pc := 134) (v := 0) d12108_134 rfl ?_
    refine ju_iald (pc := 135) (jn := 0) d12108_135 (sK254 H) (by first | assumption | exact jx_ok_dec (by decide)) (by decide) ?_
    refine ju_eqi (v := nI S.1.1) hS.1.1 ?_
    refine jn_icge (pc := 136) (a := (k)) (b := (S.1.1)) 200 d12108_136 (by decide) (by omega) (by omega) (fun c136 => by exfalso; omega) (fun c136 => ?_)
    refine je_iload (pc := 139) d12108_139 rfl ?_
    refine je_aload0 (pc := 141) d12108_141 rfl ?_
    refine ju_getr (pc := 142) (b := 255) d12108_142 jF_12_13 rfl (sK253 H) (sR253_2 H) ?_
    refine je_iload (pc := 145) d12108_145 rfl ?_
    refine ju_iald (pc := 147) (jn := (k)) d12108_147 (sK255 H) (vp_in_nI (by omega) (by decide)) (nI_clamp (by omega)) ?_
    refine ju_eqi (v := L2.1 k) (hL2.1 k (by omega)).1 ?_
    refine je_aload0 (pc := 148) d12108_148 rfl ?_
    refine ju_getr (pc := 149) (b := 301) d12108_149 jF_12_157 rfl (sK253 H) (sR253_63 H) ?_
    refine je_iload (pc := 152) d12108_152 rfl ?_
    refine ju_iald (pc := 154) (jn := (k)) d12108_154 (sK301 H) (vp_in_nI (by omega) (by decide)) (nI_clamp (by omega)) ?_
    refine ju_eqi (v := L.1 k) (hw k (by omega)) ?_
    refine ju_tern2 (pc := 155) (V := adI (L2.1 k) (L.1 k)) 191 ?_ (fun jn155 => ?_)
    · refine je_iadd (pc := 191) d12108_191 ?_
      refine ju_istore (pc := 192) (lv' := [some _, some _, some _, some _, some _, some _, some _, some _, some _, some _]) d12108_192 rfl rfl ?_
      refine ju_incN (pc := 194) (v := nI ((k) + 1)) (lv' := [some _, some _, some _, some _, some _, some _, some _, some _, some _, some _]) d12108_194 rfl (nI_1 (k)) rfl ?_
      refine je_goto (pc := 197) 128 d12108_197 (by decide) ?_
      exact kk () _ rfl
    · refine ju_icle (pc := 155) 176 d12108_155 (by decide) (fun c155 => ?_) (fun c155 => ?_)
      · refine je_aload0 (pc := 176) d12108_176 rfl ?_
        refine ju_getr (pc := 177) (b := 301) d12108_177 jF_12_157 rfl (sK253 H) (sR253_63 H) ?_
        refine je_iload (pc := 180) d12108_180 rfl ?_
        refine ju_iald (pc := 182) (jn := (k)) d12108_182 (sK301 H) (vp_in_nI (by omega) (by decide)) (nI_clamp (by omega)) ?_
        refine ju_eqi (v := L.1 k) (hw k (by omega)) ?_
        refine je_aload0 (pc := 183) d12108_183 rfl ?_
        refine ju_getr (pc := 184) (b := 255) d12108_184 jF_12_13 rfl (sK253 H) (sR253_2 H) ?_
        refine je_iload (pc := 187) d12108_187 rfl ?_
        refine ju_iald (pc := 189) (jn := (k)) d12108_189 (sK255 H) (vp_in_nI (by omega) (by decide)) (nI_clamp (by omega)) ?_
        refine ju_eqi (v := L2.1 k) (hL2.1 k (by omega)).1 ?_
        refine je_isub (pc := 190) d12108_190 ?_
        refine ju_eqi (v := adI (L2.1 k) (L.1 k)) (by unfold adI; rw [if_neg c155]) ?_
        exact jn155
      · refine je_aload0 (pc := 158) d12108_158 rfl ?_
        refine ju_getr (pc := 159) (b := 255) d12108_159 jF_12_13 rfl (sK253 H) (sR253_2 H) ?_
        refine je_iload (pc := 162) d12108_162 rfl ?_
        refine ju_iald (pc := 164) (jn := (k)) d12108_164 (sK255 H) (vp_in_nI (by omega) (by decide)) (nI_clamp (by omega)) ?_
        refine ju_eqi (v := L2.1 k) (hL2.1 k (by omega)).1 ?_
        refine je_aload0 (pc := 165) d12108_165 rfl ?_
        refine ju_getr (pc := 166) (b := 301) d12108_166 jF_12_157 rfl (sK253 H) (sR253_63 H) ?_
        refine je_iload (pc := 169) d12108_169 rfl ?_
        refine ju_iald (pc := 171) (jn := (k)) d12108_171 (sK301 H) (vp_in_nI (by omega) (by decide)) (nI_clamp (by omega)) ?_
        refine ju_eqi (v := L.1 k) (hw k (by omega)) ?_
        refine je_isub (pc := 172) d12108_172 ?_
        refine je_goto (pc := 173) 191 d12108_173 (by decide) ?_
        refine ju_eqi (v := adI (L2.1 k) (L.1 k)) (by unfold adI; rw [if_pos c155]) ?_
        exact jn155
  · obtain rfl := e.symm
    refine je_iload (pc := 128) d12108_128 rfl ?_
    refine je_aload0 (pc := 130) d12108_130 rfl ?_
    refine ju_getr (pc := 131) (b := 254) d12108_131 jF_12_9 rfl (sK253 H) (sR253_1 H) ?_
    refine je_iconst (pc := 134) (v := 0) d12108_134 rfl ?_
    refine ju_iald (pc := 135) (jn := 0) d12108_135 (sK254 H) (by first | assumption | exact jx_ok_dec (by decide)) (by decide) ?_
    refine ju_eqi (v := nI S.1.1) hS.1.1 ?_
    refine jn_icge (pc := 136) (a := ((S.1.1))) (b := (S.1.1)) 200 d12108_136 (by decide) (by omega) (by omega) (fun c136 => ?_) (fun c136 => by exfalso; omega)
    exact hK
set_option maxHeartbeats 2000000 in
theorem t_Mo_summers_n (d : Nat) {bc bs : Nat} {h : jx_H} (H : jx_St h) (x y z : Int32) (G : ¬ (0 < h.2.1 254 0 ∧ (¬ x < 1 ∧ ¬ 10 < x) ∧ (¬ y < 1 ∧ ¬ 60 < y) ∧ (¬ z < 0 ∧ ¬ 1 < z))) : jx_Tr (d + 8) bc bs 12108 [.ref 253, .int x, .int y, .int z] h (fun r h' => r = some (.int (-1)) ∧ h' = h) := by
  refine jx_tr jM_Mo_summers rfl rfl (lv := [some (.ref 253), some (.int x), some (.int y), some (.int z), none, none, none, none, none, none]) rfl ?_
  refine je_aload0 (pc := 0) d12108_0 rfl ?_
  refine ju_callv (pc := 1) (as := []) d12108_1 jL_12_400 jM_Mo_isStrip rfl (by decide) (sK253 H) rfl (by exact Nat.le_of_ble_eq_true rfl) (t_Mo_isStrip (d + 6) H) (fun r1 h1 q1 => ?_)
  obtain ⟨rfl, e1⟩ := q1
  obtain rfl := e1.symm
  refine jb_ifeq (pc := 4) 41 d12108_4 (by decide) (fun c4 => ?_) (fun c4 => ?_)
  · refine je_iconst (pc := 41) (v := -1) d12108_41 rfl ?_
    refine je_iret (pc := 42) d12108_42 rfl ?_
    exact ⟨rfl, rfl⟩
  · refine je_iload1 (pc := 7) d12108_7 rfl ?_
    refine je_i2l (pc := 8) d12108_8 ?_
    refine je_lconst1 (pc := 9) d12108_9 ?_
    refine je_ldc2 (pc := 10) d12108_10 jK_12_556 ?_
    refine ju_calls (pc := 13) (as := [_, _, _]) d12108_13 jL_12_170 jM_Mo_in rfl rfl (by exact Nat.le_of_ble_eq_true rfl) (t_Mo_in (d + 6) _ _ _) (fun r13 h13 q13 => ?_)
    obtain ⟨rfl, e13⟩ := q13
    obtain rfl := e13.symm
    refine ju_eqi (v := b2 (¬ x < 1 ∧ ¬ 10 < x)) (in_1 (x) (n := 10) (by decide)) ?_
    refine jb_ifeq (pc := 16) 41 d12108_16 (by decide) (fun c16 => ?_) (fun c16 => ?_)
    · refine je_iconst (pc := 41) (v := -1) d12108_41 rfl ?_
      refine je_iret (pc := 42) d12108_42 rfl ?_
      exact ⟨rfl, rfl⟩
    · refine je_iload2 (pc := 19) d12108_19 rfl ?_
      refine je_i2l (pc := 20) d12108_20 ?_
      refine je_lconst1 (pc := 21) d12108_21 ?_
      refine je_ldc2 (pc := 22) d12108_22 jK_12_543 ?_
      refine ju_calls (pc := 25) (as := [_, _, _]) d12108_25 jL_12_170 jM_Mo_in rfl rfl (by exact Nat.le_of_ble_eq_true rfl) (t_Mo_in (d + 6) _ _ _) (fun r25 h25 q25 => ?_)
      obtain ⟨rfl, e25⟩ := q25
      obtain rfl := e25.symm
      refine ju_eqi (v := b2 (¬ y < 1 ∧ ¬ 60 < y)) (in_1 (y) (n := 60) (by decide)) ?_
      refine jb_ifeq (pc := 28) 41 d12108_28 (by decide) (fun c28 => ?_) (fun c28 => ?_)
      · refine je_iconst (pc := 41) (v := -1) d12108_41 rfl ?_
        refine je_iret (pc := 42) d12108_42 rfl ?_
        exact ⟨rfl, rfl⟩
      · refine je_iload3 (pc := 31) d12108_31 rfl ?_
        refine je_i2l (pc := 32) d12108_32 ?_
        refine je_lconst0 (pc := 33) d12108_33 ?_
        refine je_lconst1 (pc := 34) d12108_34 ?_
        refine ju_calls (pc := 35) (as := [_, _, _]) d12108_35 jL_12_170 jM_Mo_in rfl rfl (by exact Nat.le_of_ble_eq_true rfl) (t_Mo_in (d + 6) _ _ _) (fun r35 h35 q35 => ?_)
        obtain ⟨rfl, e35⟩ := q35
        obtain rfl := e35.symm
        refine ju_eqi (v := b2 (¬ z < 0 ∧ ¬ 1 < z)) (in_0 z (n := 1) (by decide)) ?_
        refine jb_ifne (pc := 38) 43 d12108_38 (by decide) (fun c38 => absurd c38 (fun q => G ⟨c4, c16, c28, q⟩)) (fun c38 => ?_)
        refine je_iconst (pc := 41) (v := -1) d12108_41 rfl ?_
        refine je_iret (pc := 42) d12108_42 rfl ?_
        exact ⟨rfl, rfl⟩
set_option maxHeartbeats 8000000 in
theorem t_Mo_summers (d : Nat) {bc bs : Nat} {h : jx_H} {S : MS} {R : Option MR} {L : ML} {nn : Nat} (H : jx_St h) (C : mLaw h S R) (wS : wfS S) (h0 : 0 < S.1.1) (hmi : S.1.1 ≤ 10) (hL : mLa h.2.1 L) (hN : L.2.2.2.2.2 = nI nn) {m n x : Nat} (z : Int32) (h1m : 1 ≤ m ∧ m ≤ 10) (hn : 1 ≤ n ∧ n ≤ 60) (hnn : nn + n < 998) (hz : ¬ z < 0 ∧ ¬ 1 < z) (hx : x < 2 ^ 31) (h7 : h.2.1 254 7 = nI x) : jx_Tr (d + 8) bc bs 12108 [.ref 253, .int (nI m), .int (nI n), .int z] h (fun r h' => r = some (.int (if z = 0 then (smO S R L n x m).2.1 else (smO S R L n x m).2.2)) ∧ mLk h h' L ∧ ∀ j, j < 9 → h'.2.1 254 j = h.2.1 254 j) := by
  refine jx_tr jM_Mo_summers rfl rfl (lv := [some (.ref 253), some (.int (nI m)), some (.int (nI n)), some (.int z), none, none, none, none, none, none]) rfl ?_
  refine je_aload0 (pc := 0) d12108_0 rfl ?_
  refine ju_callv (pc := 1) (as := []) d12108_1 jL_12_400 jM_Mo_isStrip rfl (by decide) (sK253 H) rfl (by exact Nat.le_of_ble_eq_true rfl) (t_Mo_isStrip (d + 6) H) (fun r1 h1 q1 => ?_)
  obtain ⟨rfl, e1⟩ := q1
  obtain rfl := e1.symm
  refine jb_ifeq (pc := 4) 41 d12108_4 (by decide) (fun c4 => absurd c4 (fun q => q (by rw [C.1.1.1]; exact nI_lt (a := 0) h0 (by omega)))) (fun c4 => ?_)
  refine je_iload1 (pc := 7) d12108_7 rfl ?_
  refine je_i2l (pc := 8) d12108_8 ?_
  refine je_lconst1 (pc := 9) d12108_9 ?_
  refine je_ldc2 (pc := 10) d12108_10 jK_12_556 ?_
  refine ju_calls (pc := 13) (as := [_, _, _]) d12108_13 jL_12_170 jM_Mo_in rfl rfl (by exact Nat.le_of_ble_eq_true rfl) (t_Mo_in (d + 6) _ _ _) (fun r13 h13 q13 => ?_)
  obtain ⟨rfl, e13⟩ := q13
  obtain rfl := e13.symm
  refine ju_eqi (v := b2 (¬ nI m < 1 ∧ ¬ 10 < nI m)) (in_1 (nI m) (n := 10) (by decide)) ?_
  refine jb_ifeq (pc := 16) 41 d12108_16 (by decide) (fun c16 => absurd c16 (fun q => q ⟨nI_nlt (b := 1) h1m.1 (by omega), nI_nlt (a := 10) (b := m) h1m.2 (by decide)⟩)) (fun c16 => ?_)
  refine je_iload2 (pc := 19) d12108_19 rfl ?_
  refine je_i2l (pc := 20) d12108_20 ?_
  refine je_lconst1 (pc := 21) d12108_21 ?_
  refine je_ldc2 (pc := 22) d12108_22 jK_12_543 ?_
  refine ju_calls (pc := 25) (as := [_, _, _]) d12108_25 jL_12_170 jM_Mo_in rfl rfl (by exact Nat.le_of_ble_eq_true rfl) (t_Mo_in (d + 6) _ _ _) (fun r25 h25 q25 => ?_)
  obtain ⟨rfl, e25⟩ := q25
  obtain rfl := e25.symm
  refine ju_eqi (v := b2 (¬ nI n < 1 ∧ ¬ 60 < nI n)) (in_1 (nI n) (n := 60) (by decide)) ?_
  refine jb_ifeq (pc := 28) 41 d12108_28 (by decide) (fun c28 => absurd c28 (fun q => q ⟨nI_nlt (b := 1) hn.1 (by omega), nI_nlt (a := 60) (b := n) hn.2 (by decide)⟩)) (fun c28 => ?_)
  refine je_iload3 (pc := 31) d12108_31 rfl ?_
  refine je_i2l (pc := 32) d12108_32 ?_
  refine je_lconst0 (pc := 33) d12108_33 ?_
  refine je_lconst1 (pc := 34) d12108_34 ?_
  refine ju_calls (pc := 35) (as := [_, _, _]) d12108_35 jL_12_170 jM_Mo_in rfl rfl (by exact Nat.le_of_ble_eq_true rfl) (t_Mo_in (d + 6) _ _ _) (fun r35 h35 q35 => ?_)
  obtain ⟨rfl, e35⟩ := q35
  obtain rfl := e35.symm
  refine ju_eqi (v := b2 (¬ z < 0 ∧ ¬ 1 < z)) (in_0 z (n := 1) (by decide)) ?_
  refine jb_ifne (pc := 38) 43 d12108_38 (by decide) (fun c38 => ?_) (fun c38 => absurd c38 (fun q => absurd hz q))
  refine je_aload0 (pc := 43) d12108_43 rfl ?_
  refine ju_getr (pc := 44) (b := 254) d12108_44 jF_12_9 rfl (sK253 H) (sR253_1 H) ?_
  refine je_bipush (pc := 47) (v := 7) d12108_47 rfl ?_
  refine ju_iald (pc := 49) (jn := 7) d12108_49 (sK254 H) (by first | assumption | exact jx_ok_dec (by decide)) (by decide) ?_
  refine ju_eqi (v := nI x) h7 ?_
  refine ju_istore (pc := 50) (lv' := [some _, some _, some _, some _, some _, none, none, none, none, none]) d12108_50 rfl rfl ?_
  refine je_iload (pc := 52) d12108_52 rfl ?_
  refine ju_istore (pc := 54) (lv' := [some _, some _, some _, some _, some _, some _, none, none, none, none]) d12108_54 rfl rfl ?_
  refine je_iconst (pc := 56) (v := 0) d12108_56 rfl ?_
  refine ju_istore (pc := 57) (lv' := [some _, some _, some _, some _, some _, some _, some _, none, none, none]) d12108_57 rfl rfl ?_
  refine je_iconst (pc := 59) (v := 0) d12108_59 rfl ?_
  refine ju_istore (pc := 60) (lv' := [some _, some _, some _, some _, some _, some _, some _, some _, none, none]) d12108_60 rfl rfl ?_
  refine je_aload0 (pc := 62) d12108_62 rfl ?_
  refine ju_callv (pc := 63) (as := []) d12108_63 jL_12_482 jM_Mo_keepsAll rfl (by decide) (sK253 H) rfl (by exact Nat.le_of_ble_eq_true rfl) (t_Mo_keepsAll (d + 4) H hL) (fun r63 h63 q63 => ?_)
  obtain ⟨rfl, k1, k2⟩ := q63
  have H1 := k1.St H
  have C1 := k1.law C
  refine je_aload0 (pc := 66) d12108_66 rfl ?_
  refine ju_getr (pc := 67) (b := 255) d12108_67 jF_12_13 rfl (sK253 H1) (sR253_2 H1) ?_
  refine je_aload0 (pc := 70) d12108_70 rfl ?_
  refine ju_getr (pc := 71) (b := 301) d12108_71 jF_12_157 rfl (sK253 H1) (sR253_63 H1) ?_
  refine ju_calls (pc := 74) (as := [_, _]) d12108_74 jL_12_357 jM_Mo_copies rfl rfl (by exact Nat.le_of_ble_eq_true rfl) (t_Mo_copies (d + 6) (a := 255) (b := 301) (sK255 H1) (sK301 H1) (by decide) (by decide) (by decide)) (fun r74 h74 q74 => ?_)
  obtain ⟨rfl, f1, f2⟩ := q74
  have k3 : mLk h h74 L := k1.fr f1 (fun b hb => by omega) (fun j _ => by rw [f1.2 254 (by omega)]) (k1.2.2.2.of (f1.2 _ (by omega)) (f1.2 _ (by omega)) (f1.2 _ (by omega)) (f1.2 _ (by omega)) (by rw [f1.2 254 (by omega)]) (by rw [f1.2 254 (by omega)]))
  refine je_iconst (pc := 77) (v := 0) d12108_77 rfl ?_
  refine ju_istore (pc := 78) (lv' := [some _, some _, some _, some _, some _, some _, some _, some _, some _, none]) d12108_78 rfl rfl ?_
  refine je_loop (σ := Option Value) (m) (fun k xx => [some (.ref 253), some (.int (nI m)), some (.int (nI n)), some (.int z), some (.int (nI x)), some (.int (nI (smO S R L n x k).1)), some (.int (smO S R L n x k).2.1), some (.int (smO S R L n x k).2.2), some (.int (nI k)), xx]) (fun k _ h' => mLk h h' L ∧ (∀ j, j < 9 → h'.2.1 254 j = h.2.1 254 j) ∧ ∀ m, m < 10 → h'.2.1 301 m = L.1 m) (fun k xx h' hk e kk => ?_) (fun xx h' e => ?_) (0) none h74 (by omega) ⟨k3, fun j hj => by rw [f1.2 254 (by omega)]; exact k2 j hj, fun m hm => by rw [f2 m hm]; exact (k1.2.2.2.1 m hm).1⟩
  · obtain ⟨e1, e2, e3⟩ := e
    have H1 := e1.St H
    refine je_iload (pc := 80) d12108_80 rfl ?_
    refine je_iload1 (pc := 82) d12108_82 rfl ?_
    refine jn_icge (pc := 83) (a := (k)) (b := (m)) 219 d12108_83 (by decide) (by omega) (by omega) (fun c83 => by exfalso; omega) (fun c83 => ?_)
    refine je_aload0 (pc := 86) d12108_86 rfl ?_
    refine ju_getr (pc := 87) (b := 254) d12108_87 jF_12_9 rfl (sK253 H1) (sR253_1 H1) ?_
    refine je_bipush (pc := 90) (v := 7) d12108_90 rfl ?_
    refine je_iload (pc := 92) d12108_92 rfl ?_
    refine ju_iast (pc := 94) (jn := 7) d12108_94 (sK254 H1) (by first | assumption | exact jx_ok_dec (by decide)) (by decide) ?_
    have k5 := e1.fr (fC.rf.wI (A := fun b => b = 254) (a := 254) (k := 7) (v := nI (smO S R L n x k).1) rfl) (fun b hb => by omega) (fun j hj => by rw [wI_at, jx_up_ne _ _ (by omega)]) (e1.2.2.2.of (wI_ne _ _ _ (by decide)) (wI_ne _ _ _ (by decide)) (wI_ne _ _ _ (by decide)) (wI_ne _ _ _ (by decide)) (by rw [wI_at, jx_up_ne _ _ (by decide)]) (by rw [wI_at, jx_up_ne _ _ (by decide)]))
    refine mo_sn (S := S) (R := R) (L := L) (x := (smO S R L n x k).1) (c := (smO S R L n x k).2.1) H C wS h0 hmi hN hn.2 (so_x hx k) k5 (by rw [wI_at, jx_up_self]) _ _ _ _ _ _ _ (fun h3' g1 g2 g3 => ?_)
    refine mo_sf (L := L) (f := (smO S R L n x k).2.2) (g1.St H) (g1.law C).1 hmi g1.2.2.2 (fun m hm => by rw [g3, wI_ne _ _ _ (by decide)]; exact e3 m hm) _ _ _ _ _ _ _ _ ?_
    have H3 := g1.St H
    refine je_aload0 (pc := 200) d12108_200 rfl ?_
    refine ju_getr (pc := 201) (b := 254) d12108_201 jF_12_9 rfl (sK253 H3) (sR253_1 H3) ?_
    refine je_bipush (pc := 204) (v := 7) d12108_204 rfl ?_
    refine ju_iald (pc := 206) (jn := 7) d12108_206 (sK254 H3) (by first | assumption | exact jx_ok_dec (by decide)) (by decide) ?_
    refine ju_eqi (v := nI (smS S R L (smO S R L n x k).1 (smO S R L n x k).2.1 n).2.1) g2 ?_
    refine ju_istore (pc := 207) (lv' := [some _, some _, some _, some _, some _, some _, some _, some _, some _, _]) d12108_207 rfl rfl ?_
    refine je_aload0 (pc := 209) d12108_209 rfl ?_
    refine ju_callv (pc := 210) (as := []) d12108_210 jL_12_491 jM_Mo_laysBack rfl (by decide) (sK253 H3) rfl (by exact Nat.le_of_ble_eq_true rfl) (t_Mo_laysBack_f (d + 4) H3 g1 hL) (fun r210 h210 q210 => ?_)
    obtain ⟨rfl, k6, k7, k8⟩ := q210
    refine ju_incN (pc := 213) (v := nI ((k) + 1)) (lv' := [some _, some _, some _, some _, some _, some _, some _, some _, some _, _]) d12108_213 rfl (nI_1 (k)) rfl ?_
    refine je_goto (pc := 216) 80 d12108_216 (by decide) ?_
    exact kk (some _) _ ⟨k6, k7, fun m hm => by rw [k8.2 301 (by omega), g3, wI_ne _ _ _ (by decide)]; exact e3 m hm⟩
  · obtain ⟨e1, e2, e3⟩ := e
    have H1 := e1.St H
    refine je_iload (pc := 80) d12108_80 rfl ?_
    refine je_iload1 (pc := 82) d12108_82 rfl ?_
    refine jn_icge (pc := 83) (a := ((m))) (b := (m)) 219 d12108_83 (by decide) (by omega) (by omega) (fun c83 => ?_) (fun c83 => by exfalso; omega)
    refine je_aload0 (pc := 219) d12108_219 rfl ?_
    refine ju_getr (pc := 220) (b := 254) d12108_220 jF_12_9 rfl (sK253 H1) (sR253_1 H1) ?_
    refine je_bipush (pc := 223) (v := 7) d12108_223 rfl ?_
    refine je_iload (pc := 225) d12108_225 rfl ?_
    refine ju_iast (pc := 227) (jn := 7) d12108_227 (sK254 H1) (by first | assumption | exact jx_ok_dec (by decide)) (by decide) ?_
    have k6 := e1.fr (fC.rf.wI (A := fun b => b = 254) (a := 254) (k := 7) (v := nI x) rfl) (fun b hb => by omega) (fun j hj => by rw [wI_at, jx_up_ne _ _ (by omega)]) (e1.2.2.2.of (wI_ne _ _ _ (by decide)) (wI_ne _ _ _ (by decide)) (wI_ne _ _ _ (by decide)) (wI_ne _ _ _ (by decide)) (by rw [wI_at, jx_up_ne _ _ (by decide)]) (by rw [wI_at, jx_up_ne _ _ (by decide)]))
    have k7 : ∀ j, j < 9 → (jx_wI h' 254 7 (nI x)).2.1 254 j = h.2.1 254 j := fun j hj => by
      rw [wI_at]
      by_cases c : j = 7
      · rw [c, jx_up_self, h7]
      · rw [jx_up_ne _ _ c]; exact e2 j hj
    refine je_iload3 (pc := 228) d12108_228 rfl ?_
    refine je_ifne (pc := 229) 237 d12108_229 (by decide) (fun c229 => ?_) (fun c229 => ?_)
    · refine je_iload (pc := 237) d12108_237 rfl ?_
      refine je_iret (pc := 239) d12108_239 rfl ?_
      exact ⟨by rw [if_neg c229], k6, k7⟩
    · refine je_iload (pc := 232) d12108_232 rfl ?_
      refine je_goto (pc := 234) 239 d12108_234 (by decide) ?_
      refine je_iret (pc := 239) d12108_239 rfl ?_
      exact ⟨by rw [if_pos c229], k6, k7⟩
theorem op_summers (x y z : Int32) : jo Inv 38 12108 [.int x, .int y, .int z] := jo_look (fun n h t nr rs X Y hn q => by
  obtain ⟨s, r1, r2, r3, r4, -⟩ := q.cl
  obtain ⟨b1, b2, -⟩ := q.mi
  obtain ⟨-, -, -, -, ⟨-, rl, ⟨-, r3x⟩, -⟩, -, ⟨wS, wl, -, wx, -⟩, -⟩ := id q
  by_cases G : 0 < X.1.1.1 ∧ (¬ x < 1 ∧ ¬ 10 < x) ∧ (¬ y < 1 ∧ ¬ 60 < y) ∧ (¬ z < 0 ∧ ¬ 1 < z)
  · obtain ⟨G1, ⟨G2, G3⟩, ⟨G4, G5⟩, G6⟩ := G
    obtain ⟨i, hi, rfl⟩ := z_of (x := x) (n := 10) ⟨fun c => G2 (Int32.lt_trans c (by decide)), G3⟩ (by decide)
    obtain ⟨k, hk, rfl⟩ := z_of (x := y) (n := 60) ⟨fun c => G4 (Int32.lt_trans c (by decide)), G5⟩ (by decide)
    have hi1 : 1 ≤ i := Nat.le_of_not_lt (fun c => G2 (nI_lt (b := 1) c (by decide)))
    have hk1 : 1 ≤ k := Nat.le_of_not_lt (fun c => G4 (nI_lt (b := 1) c (by decide)))
    obtain ⟨R, C1, C2⟩ := q.law G1
    obtain ⟨-, -, -, N, hN, eN⟩ := id wl
    obtain ⟨a, ha, ea⟩ := nI_of (x := X.2.2.1.2) (by rw [fa_lt, Int32.toInt_zero]; have := wx.1; omega)
    refine ⟨_, (t_Db_summers 193 q.1 C1 wS G1 rl eN r1 r3 r4 z ⟨hi1, hi⟩ ⟨hk1, hk⟩ (by omega) G6 ha (r3x.trans ea) wl (by omega)).mono (fun r h1 e => ⟨e.1, e.2.mo (fun b hb => by omega)⟩), fun h1 S1 g1 m1 => (t_Mo_summers 191 S1 (C2 h1 g1) wS G1 b1 m1.la eN z ⟨hi1, hi⟩ ⟨hk1, hk⟩ (by omega) G6 ha (m1.fx.2.trans ea)).mono (fun r h2 e => ⟨e.1, e.2.1.fin e.2.2 m1⟩)⟩
  · have g0 : ∀ k : Nat, k ≤ 10 → (0 < nI k ↔ 0 < k) := fun k hk => nI_ltI (a := 0) (by decide) (by omega)
    exact ⟨-1, (t_Db_summers_n 193 q.1 r1 r3 x y z (by rw [r4.1.1]; exact fun c => G ⟨(g0 _ b1).mp c.1, ⟨c.2.1, c.2.2.1⟩, ⟨c.2.2.2.1, c.2.2.2.2.1⟩, c.2.2.2.2.2⟩)).mono (fun r h1 e => ⟨e.1, by rw [e.2]; exact fC.rf⟩), fun h1 S1 g1 m1 => (t_Mo_summers_n 191 S1 x y z (by rw [m1.st.1.1]; exact fun c => G ⟨(g0 _ b1).mp c.1, c.2⟩)).mono (fun r h2 e => ⟨e.1, by rw [e.2]; exact ⟨fM.rf, m1⟩⟩)⟩)
