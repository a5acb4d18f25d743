/-! nights: the class -/
set_option maxHeartbeats 2000000 in
theorem t_St_sidesOf (d : Nat) {bc bs : Nat} {h : jx_H} {s a : Nat} {S : MS} {l : Nat → Int32} (P : jx_Sp h s) (A : jx_La h a) (hS : rS h.2.1 s S) (wS : wfS S) (hl : ∀ m, m < 10 → h.2.1 (a + 1) m = l m) : jx_Tr (d + 1) bc bs 3003 [.ref s, .ref a] h (fun r h' => r = some (.int (nI (sidN S l S.1.2.1))) ∧ h' = h) := by
  refine jx_tr jM_St_sidesOf rfl rfl (lv := [some (.ref s), some (.ref a), none, none, none, none]) rfl ?_
  have w8 := wS.2.1
  refine je_iconst (pc := 0) (v := 0) d3003_0 rfl ?_
  refine ju_istore2 (pc := 1) (lv' := [some _, some _, some _, none, none, none]) d3003_1 rfl rfl ?_
  refine je_iconst (pc := 2) (v := 0) d3003_2 rfl ?_
  refine ju_istore3 (pc := 3) (lv' := [some _, some _, some _, some _, none, none]) d3003_3 rfl rfl ?_
  refine je_loop (σ := Option Value × Option Value) (S.1.2.1) (fun k xx => [some (.ref s), some (.ref a), some (.int (nI (sidN S l k))), some (.int (nI k)), xx.1, xx.2]) (fun _ _ h' => h' = h) (fun k xx h' hk e kk => ?_) (fun xx h' e => ?_) (0) (none, none) h (by omega) rfl
  · obtain rfl := e.symm
    obtain ⟨⟨m, hm, em⟩, -, -⟩ := wS.2.2.2.2.2.1 k hk
    have hm10 : m < 10 := by rcases wS.1 with z | z <;> omega
    obtain ⟨q1, q2, -⟩ := hS.2.2.1 k hk
    have vm : vM S k = m := by unfold vM; rw [em, nI_clamp (by omega)]
    have sd : sdM S l k = sdV (l m) (vP S k) := by unfold sdM; rw [vm]
    refine je_iload3 (pc := 4) d3003_4 rfl ?_
    refine je_aload0 (pc := 5) d3003_5 rfl ?_
    refine ju_geti (pc := 6) d3003_6 jF_3_43 rfl P.1.1 ?_
    refine ju_eqi (v := nI S.1.2.1) hS.1.2.2.1 ?_
    refine jn_icge (pc := 9) (a := (k)) (b := (S.1.2.1)) 70 d3003_9 (by decide) (by omega) (by omega) (fun c9 => by exfalso; omega) (fun c9 => ?_)
    refine je_aload1 (pc := 12) d3003_12 rfl ?_
    refine ju_getr (pc := 13) (b := (a + 1)) d3003_13 jF_3_40 rfl A.1 A.2.1.2 ?_
    refine je_aload0 (pc := 16) d3003_16 rfl ?_
    refine ju_getr (pc := 17) (b := (s + 2)) d3003_17 jF_3_15 rfl P.1.1 P.1.2.2.1.2 ?_
    refine je_iload3 (pc := 20) d3003_20 rfl ?_
    refine ju_iald (pc := 21) (jn := (k)) d3003_21 P.1.2.2.1.1 (vp_in_nI (by omega) (by decide)) (nI_clamp (by omega)) ?_
    refine ju_eqi (v := nI m) (q1.trans em) ?_
    refine ju_iald (pc := 22) (jn := (m)) d3003_22 A.2.1.1 (vp_in_nI (by omega) (by decide)) (nI_clamp (by omega)) ?_
    refine ju_eqi (v := l m) (hl m hm10) ?_
    refine ju_istore (pc := 23) (lv' := [some _, some _, some _, some _, some _, _]) d3003_23 rfl rfl ?_
    refine je_aload0 (pc := 25) d3003_25 rfl ?_
    refine ju_getr (pc := 26) (b := (s + 3)) d3003_26 jF_3_18 rfl P.1.1 P.1.2.2.2.1.2 ?_
    refine je_iload3 (pc := 29) d3003_29 rfl ?_
    refine ju_iald (pc := 30) (jn := (k)) d3003_30 P.1.2.2.2.1.1 (vp_in_nI (by omega) (by decide)) (nI_clamp (by omega)) ?_
    refine ju_eqi (v := vP S k) q2 ?_
    refine ju_istore (pc := 31) (lv' := [some _, some _, some _, some _, some _, some _]) d3003_31 rfl rfl ?_
    refine je_iload (pc := 33) d3003_33 rfl ?_
    refine je_iload (pc := 35) d3003_35 rfl ?_
    refine ju_icge (pc := 37) 49 d3003_37 (by decide) (fun c37 => ?_) (fun c37 => ?_)
    · refine je_iload (pc := 49) d3003_49 rfl ?_
      refine je_iload (pc := 51) d3003_51 rfl ?_
      refine ju_icle (pc := 53) 64 d3003_53 (by decide) (fun c53 => ?_) (fun c53 => ?_)
      · refine ju_incN (pc := 64) (v := nI ((k) + 1)) (lv' := [some _, some _, some _, some _, some _, some _]) d3003_64 rfl (nI_1 (k)) rfl ?_
        refine je_goto (pc := 67) 4 d3003_67 (by decide) ?_
        rw [sid_o (sd.trans (sdV_2 c37 c53))]
        exact kk (some _, some _) _ rfl
      · refine je_iload2 (pc := 56) d3003_56 rfl ?_
        refine je_sipush (pc := 57) (v := 256) d3003_57 rfl ?_
        refine je_iload3 (pc := 60) d3003_60 rfl ?_
        refine je_ishl (pc := 61) d3003_61 ?_
        refine je_ior (pc := 62) d3003_62 ?_
        refine ju_istore2 (pc := 63) (lv' := [some _, some _, some _, some _, some _, some _]) d3003_63 rfl rfl ?_
        refine ju_incN (pc := 64) (v := nI ((k) + 1)) (lv' := [some _, some _, some _, some _, some _, some _]) d3003_64 rfl (nI_1 (k)) rfl ?_
        refine je_goto (pc := 67) 4 d3003_67 (by decide) ?_
        rw [sid_e (by omega) (sd.trans (sdV_1 c37 c53))]
        exact kk (some _, some _) _ rfl
    · refine je_iload2 (pc := 40) d3003_40 rfl ?_
      refine je_iconst (pc := 41) (v := 1) d3003_41 rfl ?_
      refine je_iload3 (pc := 42) d3003_42 rfl ?_
      refine je_ishl (pc := 43) d3003_43 ?_
      refine je_ior (pc := 44) d3003_44 ?_
      refine ju_istore2 (pc := 45) (lv' := [some _, some _, some _, some _, some _, some _]) d3003_45 rfl rfl ?_
      refine je_goto (pc := 46) 64 d3003_46 (by decide) ?_
      refine ju_incN (pc := 64) (v := nI ((k) + 1)) (lv' := [some _, some _, some _, some _, some _, some _]) d3003_64 rfl (nI_1 (k)) rfl ?_
      refine je_goto (pc := 67) 4 d3003_67 (by decide) ?_
      rw [sid_w (by omega) (sd.trans (sdV_0 c37))]
      exact kk (some _, some _) _ rfl
  · obtain rfl := e.symm
    refine je_iload3 (pc := 4) d3003_4 rfl ?_
    refine je_aload0 (pc := 5) d3003_5 rfl ?_
    refine ju_geti (pc := 6) d3003_6 jF_3_43 rfl P.1.1 ?_
    refine ju_eqi (v := nI S.1.2.1) hS.1.2.2.1 ?_
    refine jn_icge (pc := 9) (a := ((S.1.2.1))) (b := (S.1.2.1)) 70 d3003_9 (by decide) (by omega) (by omega) (fun c9 => ?_) (fun c9 => by exfalso; omega)
    refine je_iload2 (pc := 70) d3003_70 rfl ?_
    refine je_iret (pc := 71) d3003_71 rfl ?_
    exact ⟨rfl, rfl⟩
set_option maxHeartbeats 2000000 in
theorem t_La_moveLine (d : Nat) {bc bs : Nat} {h : jx_H} {a m : Nat} (A : jx_La h a) (hm : m < 10) (x : Int32) : jx_Tr (d + 2) bc bs 4004 [.ref a, .int (nI m), .int x] h (fun r h' => r = none ∧ h' = jx_wI h (a + 1) m (mhold (h.2.1 (a + 1) m + x) (-20) 20)) := by
  refine jx_tr jM_La_moveLine rfl rfl (lv := [some (.ref a), some (.int (nI m)), some (.int x)]) rfl ?_
  refine je_aload0 (pc := 0) d4004_0 rfl ?_
  refine ju_getr (pc := 1) (b := (a + 1)) d4004_1 jF_4_9 rfl A.1 A.2.1.2 ?_
  refine je_iload1 (pc := 4) d4004_4 rfl ?_
  refine je_aload0 (pc := 5) d4004_5 rfl ?_
  refine ju_getr (pc := 6) (b := (a + 1)) d4004_6 jF_4_9 rfl A.1 A.2.1.2 ?_
  refine je_iload1 (pc := 9) d4004_9 rfl ?_
  refine ju_iald (pc := 10) (jn := (m)) d4004_10 A.2.1.1 (vp_in_nI (by omega) (by decide)) (nI_clamp (by omega)) ?_
  refine je_iload2 (pc := 11) d4004_11 rfl ?_
  refine je_iadd (pc := 12) d4004_12 ?_
  refine je_bipush (pc := 13) (v := -20) d4004_13 rfl ?_
  refine je_bipush (pc := 15) (v := 20) d4004_15 rfl ?_
  refine ju_callsN (pc := 17) (as := [_, _, _]) d4004_17 jL_4_37 jM_Db_held rfl rfl (by exact Nat.le_of_ble_eq_true rfl) (t_Db_held (d + 0) _ _ _) (fun r17 h17 q17 => ?_)
  obtain ⟨rfl, e17⟩ := q17
  obtain rfl := e17.symm
  refine ju_iast (pc := 20) (jn := (m)) d4004_20 A.2.1.1 (vp_in_nI (by omega) (by decide)) (nI_clamp (by omega)) ?_
  refine je_ret (pc := 21) d4004_21 rfl ?_
  exact ⟨rfl, rfl⟩
theorem cc_bit {z k : Nat} : z / 2 ^ k % 2 = if z.testBit k then 1 else 0 := by
  rw [Nat.testBit_eq_decide_div_mod_eq]
  by_cases c : z / 2 ^ k % 2 = 1
  · rw [c]; simp
  · have : z / 2 ^ k % 2 = 0 := by omega
    rw [this]; simp
theorem cc_0 {z k i : Nat} (h : z / 2 ^ k = 0) (hi : k ≤ i) : z.testBit i = false := by
  have : z < 2 ^ k := by
    rcases Nat.div_eq_zero_iff.mp h with q | q
    · exact absurd q (by have := Nat.two_pow_pos k; omega)
    · exact q
  exact Nat.testBit_lt_two_pow (Nat.lt_of_lt_of_le this (Nat.pow_le_pow_right (by decide) hi))
def ccF (k z : Nat) (c : Nat → Int32) : Nat → Int32 := fun v => if v < k ∧ z.testBit v = true then c v + 1 else c v
theorem ccF_s {k z : Nat} {c : Nat → Int32} (v : Nat) : jx_up (ccF k z c) k (c k + nI (z / 2 ^ k % 2)) v = ccF (k + 1) z c v := by
  unfold jx_up ccF
  by_cases e : v = k
  · subst e
    rw [if_pos (show v = v from rfl), cc_bit]
    by_cases b : z.testBit v = true
    · rw [if_pos b, if_pos ⟨by omega, b⟩]; rfl
    · rw [if_neg b, if_neg (fun q => b q.2)]; exact Int32.add_zero _
  · rw [if_neg e]
    have : v < k + 1 ↔ v < k := by omega
    simp only [this]
theorem ccF_0 {k z : Nat} {c : Nat → Int32} (h : z / 2 ^ k = 0) {v : Nat} (h8 : v < 8) : ccF k z c v = ccF 8 z c v := by
  unfold ccF
  by_cases b : z.testBit v = true
  · have h1 : v < k := Nat.lt_of_not_le (fun q => by rw [cc_0 h q] at b; exact absurd b (by decide))
    rw [if_pos ⟨h1, b⟩, if_pos ⟨h8, b⟩]
  · rw [if_neg (fun q => b q.2), if_neg (fun q => b q.2)]
set_option maxHeartbeats 2000000 in
theorem t_La_countCrossed (d : Nat) {bc bs : Nat} {h : jx_H} {a z : Nat} (A : jx_La h a) (hz : z < 256) : jx_Tr (d + 1) bc bs 4005 [.ref a, .int (nI z)] h (fun r h' => r = none ∧ fC (fun b => b = a + 4) h h' ∧ ∀ v, v < 8 → h'.2.1 (a + 4) v = ccF 8 z (h.2.1 (a + 4)) v) := by
  refine jx_tr jM_La_countCrossed rfl rfl (lv := [some (.ref a), some (.int (nI z)), none]) rfl ?_
  refine je_iconst (pc := 0) (v := 0) d4005_0 rfl ?_
  refine ju_istore2 (pc := 1) (lv' := [some _, some _, some _]) d4005_1 rfl rfl ?_
  refine je_loop (σ := Unit) (8) (fun k xx => [some (.ref a), some (.int (nI z)), some (.int (nI k))]) (fun k _ h' => fC (fun b => b = a + 4) h h' ∧ ∀ v, v < 8 → h'.2.1 (a + 4) v = ccF k z (h.2.1 (a + 4)) v) (fun k xx h' hk e kk => ?_) (fun xx h' e => ?_) (0) () h (by omega) ⟨fC.rf, fun v _ => by unfold ccF; rw [if_neg (fun q => by omega)]⟩
  · obtain ⟨e1, e2⟩ := e
    have A1 := e1.La A
    have hq : z / 2 ^ k ≤ z := Nat.div_le_self _ _
    refine je_iload2 (pc := 2) d4005_2 rfl ?_
    refine je_bipush (pc := 3) (v := 8) d4005_3 rfl ?_
    refine jn_icge (pc := 5) (a := (k)) (b := 8) 34 d4005_5 (by decide) (by omega) (by omega) (fun c5 => by exfalso; omega) (fun c5 => ?_)
    refine je_iload1 (pc := 8) d4005_8 rfl ?_
    refine je_iload2 (pc := 9) d4005_9 rfl ?_
    refine je_ishr (pc := 10) d4005_10 ?_
    refine ju_eqi (v := nI (z / 2 ^ k)) (sh_r (by omega) (by omega)) ?_
    refine jn_ifeq (pc := 11) (a := (z / 2 ^ k)) 34 d4005_11 (by decide) (by omega) (fun c11 => ?_) (fun c11 => ?_)
    · refine je_ret (pc := 34) d4005_34 rfl ?_
      exact ⟨rfl, e1, fun v hv => (e2 v hv).trans (ccF_0 c11 hv)⟩
    · refine je_aload0 (pc := 14) d4005_14 rfl ?_
      refine ju_getr (pc := 15) (b := (a + 4)) d4005_15 jF_4_21 rfl A1.1 A1.2.2.2.2.2 ?_
      refine je_iload2 (pc := 18) d4005_18 rfl ?_
      refine je_dup2 (pc := 19) d4005_19 rfl rfl ?_
      refine ju_iald (pc := 20) (jn := (k)) d4005_20 A1.2.2.2.2.1 (vp_in_nI (by omega) (by decide)) (nI_clamp (by omega)) ?_
      refine je_iload1 (pc := 21) d4005_21 rfl ?_
      refine je_iload2 (pc := 22) d4005_22 rfl ?_
      refine je_ishr (pc := 23) d4005_23 ?_
      refine ju_eqi (v := nI (z / 2 ^ k)) (sh_r (by omega) (by omega)) ?_
      refine je_iconst (pc := 24) (v := 1) d4005_24 rfl ?_
      refine je_iand (pc := 25) d4005_25 ?_
      refine ju_eqi (v := nI (z / 2 ^ k % 2)) (pk_andN (by omega) 1 (by decide)) ?_
      refine je_iadd (pc := 26) d4005_26 ?_
      refine ju_iast (pc := 27) (jn := (k)) d4005_27 A1.2.2.2.2.1 (vp_in_nI (by omega) (by decide)) (nI_clamp (by omega)) ?_
      refine ju_incN (pc := 28) (v := nI ((k) + 1)) (lv' := [some _, some _, some _]) d4005_28 rfl (nI_1 (k)) rfl ?_
      refine je_goto (pc := 31) 2 d4005_31 (by decide) ?_
      refine kk () _ ⟨e1.wI rfl, fun v hv => ?_⟩
      rw [wI_at, ← ccF_s v]
      unfold jx_up
      rw [e2 v hv, e2 k (by omega), show ccF k z (h.2.1 (a + 4)) k = h.2.1 (a + 4) k from by unfold ccF; rw [if_neg (fun q => by omega)]]
  · obtain ⟨e1, e2⟩ := e
    refine je_iload2 (pc := 2) d4005_2 rfl ?_
    refine je_bipush (pc := 3) (v := 8) d4005_3 rfl ?_
    refine jn_icge (pc := 5) (a := ((8))) (b := 8) 34 d4005_5 (by decide) (by omega) (by omega) (fun c5 => ?_) (fun c5 => by exfalso; omega)
    refine je_ret (pc := 34) d4005_34 rfl ?_
    exact ⟨rfl, e1, e2⟩
set_option maxHeartbeats 2000000 in
theorem t_Lw_rise (d : Nat) {bc bs : Nat} {h : jx_H} {s a mi : Nat} (H : jx_St h) (hs : h.2.2.2 51 0 = some s) (P : jx_Sp h s) (A : jx_La h a) (dj : (s + 12 < a ∨ a + 4 < s) ∧ (a + 4 < 51 ∨ 66 < a) ∧ (s + 12 < 51 ∨ 66 < s)) (hm : h.2.1 s 0 = nI mi) (hmi : mi ≤ 10) (x : Int32) : jx_Tr (d + 2) bc bs 8003 [.ref 51, .ref a, .int x] h (fun r h' => r = none ∧ fC (fun b => b = a + 2) h h' ∧ ∀ m, m < 10 → h'.2.1 (a + 2) m = riseF mi (h.2.1 a 4) x (h.2.1 (a + 2)) m) := by
  refine jx_tr jM_Lw_rise rfl rfl (lv := [some (.ref 51), some (.ref a), some (.int x), none]) rfl ?_
  refine je_iconst (pc := 0) (v := 0) d8003_0 rfl ?_
  refine ju_istore3 (pc := 1) (lv' := [some _, some _, some _, some _]) d8003_1 rfl rfl ?_
  refine je_loop (σ := Unit) (mi) (fun k xx => [some (.ref 51), some (.ref a), some (.int x), some (.int (nI k))]) (fun k _ h' => fC (fun b => b = a + 2) h h' ∧ ∀ m, m < 10 → h'.2.1 (a + 2) m = riseF k (h.2.1 a 4) x (h.2.1 (a + 2)) m) (fun k xx h' hk e kk => ?_) (fun xx h' e => ?_) (0) () h (by omega) ⟨fC.rf, fun m _ => (riseF_k (Nat.zero_le m)).symm⟩
  · obtain ⟨e1, e2⟩ := e
    have H1 := e1.St H
    have P1 := e1.Sp P
    have A1 := e1.La A
    have hs1 := e1.rr hs
    have em : h'.2.1 s 0 = nI mi := by rw [e1.2 s (by omega)]; exact hm
    have eb : h'.2.1 a 4 = h.2.1 a 4 := by rw [e1.2 a (by omega)]
    refine je_iload3 (pc := 2) d8003_2 rfl ?_
    refine je_aload0 (pc := 3) d8003_3 rfl ?_
    refine ju_getr (pc := 4) (b := s) d8003_4 jF_8_12 rfl (sK51 H1) hs1 ?_
    refine ju_geti (pc := 7) d8003_7 jF_8_50 rfl P1.1.1 ?_
    refine ju_eqi (v := nI mi) em ?_
    refine jn_icge (pc := 10) (a := (k)) (b := (mi)) 46 d8003_10 (by decide) (by omega) (by omega) (fun c10 => by exfalso; omega) (fun c10 => ?_)
    refine je_aload1 (pc := 13) d8003_13 rfl ?_
    refine je_iload3 (pc := 14) d8003_14 rfl ?_
    refine ju_callv (pc := 15) (as := [_]) d8003_15 jL_8_53 jM_La_isBaked rfl (by decide) A1.1 rfl (by exact Nat.le_of_ble_eq_true rfl) (t_La_isBaked (d + 0) A1 _) (fun r15 h15 q15 => ?_)
    obtain ⟨rfl, e15⟩ := q15
    obtain rfl := e15.symm
    refine jb_ifne (pc := 18) 40 d8003_18 (by decide) (fun c18 => ?_) (fun c18 => ?_)
    · refine ju_incN (pc := 40) (v := nI ((k) + 1)) (lv' := [some _, some _, some _, some _]) d8003_40 rfl (nI_1 (k)) rfl ?_
      refine je_goto (pc := 43) 2 d8003_43 (by decide) ?_
      rw [eb] at c18
      exact kk () _ ⟨e1, fun m hm' => (e2 m hm').trans (riseF_b c18 m)⟩
    · refine je_aload1 (pc := 21) d8003_21 rfl ?_
      refine ju_getr (pc := 22) (b := (a + 2)) d8003_22 jF_8_89 rfl A1.1 A1.2.2.1.2 ?_
      refine je_iload3 (pc := 25) d8003_25 rfl ?_
      refine je_aload1 (pc := 26) d8003_26 rfl ?_
      refine ju_getr (pc := 27) (b := (a + 2)) d8003_27 jF_8_89 rfl A1.1 A1.2.2.1.2 ?_
      refine je_iload3 (pc := 30) d8003_30 rfl ?_
      refine ju_iald (pc := 31) (jn := (k)) d8003_31 A1.2.2.1.1 (vp_in_nI (by omega) (by decide)) (nI_clamp (by omega)) ?_
      refine je_iload2 (pc := 32) d8003_32 rfl ?_
      refine je_iadd (pc := 33) d8003_33 ?_
      refine je_bipush (pc := 34) (v := 99) d8003_34 rfl ?_
      refine je_mmin (pc := 36) d8003_36 jLm_8_76 (by exact Nat.le_of_ble_eq_true rfl) ?_
      refine ju_iast (pc := 39) (jn := (k)) d8003_39 A1.2.2.1.1 (vp_in_nI (by omega) (by decide)) (nI_clamp (by omega)) ?_
      refine ju_incN (pc := 40) (v := nI ((k) + 1)) (lv' := [some _, some _, some _, some _]) d8003_40 rfl (nI_1 (k)) rfl ?_
      refine je_goto (pc := 43) 2 d8003_43 (by decide) ?_
      rw [eb] at c18
      refine kk () _ ⟨e1.wI rfl, fun m hm' => ?_⟩
      rw [wI_at, ← riseF_s c18 m]
      unfold jx_up
      rw [e2 m hm', e2 k (by omega), riseF_k (Nat.le_refl k)]
  · obtain ⟨e1, e2⟩ := e
    have H1 := e1.St H
    have P1 := e1.Sp P
    have A1 := e1.La A
    have hs1 := e1.rr hs
    have em : h'.2.1 s 0 = nI mi := by rw [e1.2 s (by omega)]; exact hm
    have eb : h'.2.1 a 4 = h.2.1 a 4 := by rw [e1.2 a (by omega)]
    refine je_iload3 (pc := 2) d8003_2 rfl ?_
    refine je_aload0 (pc := 3) d8003_3 rfl ?_
    refine ju_getr (pc := 4) (b := s) d8003_4 jF_8_12 rfl (sK51 H1) hs1 ?_
    refine ju_geti (pc := 7) d8003_7 jF_8_50 rfl P1.1.1 ?_
    refine ju_eqi (v := nI mi) em ?_
    refine jn_icge (pc := 10) (a := ((mi))) (b := (mi)) 46 d8003_10 (by decide) (by omega) (by omega) (fun c10 => ?_) (fun c10 => by exfalso; omega)
    refine je_ret (pc := 46) d8003_46 rfl ?_
    exact ⟨rfl, e1, e2⟩
set_option maxHeartbeats 2000000 in
theorem t_Lw_feetWithoutRule (d : Nat) {bc bs : Nat} {h : jx_H} {s a m : Nat} (H : jx_St h) (hs : h.2.2.2 51 0 = some s) (P : jx_Sp h s) (A : jx_La h a) (hm : m < 10) : jx_Tr (d + 2) bc bs 8004 [.ref 51, .ref a, .int (nI m)] h (fun r h' => r = some (.int (mhold (h.2.1 (a + 2) m / 20 + h.2.1 s 1 - h.2.1 (a + 3) m) (-3) 3)) ∧ h' = h) := by
  refine jx_tr jM_Lw_feetWithoutRule rfl rfl (lv := [some (.ref 51), some (.ref a), some (.int (nI m)), none]) rfl ?_
  refine je_aload1 (pc := 0) d8004_0 rfl ?_
  refine ju_getr (pc := 1) (b := (a + 2)) d8004_1 jF_8_89 rfl A.1 A.2.2.1.2 ?_
  refine je_iload2 (pc := 4) d8004_4 rfl ?_
  refine ju_iald (pc := 5) (jn := (m)) d8004_5 A.2.2.1.1 (vp_in_nI (by omega) (by decide)) (nI_clamp (by omega)) ?_
  refine je_bipush (pc := 6) (v := 20) d8004_6 rfl ?_
  refine je_idiv (pc := 8) d8004_8 (by decide) ?_
  refine je_aload0 (pc := 9) d8004_9 rfl ?_
  refine ju_getr (pc := 10) (b := s) d8004_10 jF_8_12 rfl (sK51 H) hs ?_
  refine ju_geti (pc := 13) d8004_13 jF_8_92 rfl P.1.1 ?_
  refine je_iadd (pc := 16) d8004_16 ?_
  refine je_aload1 (pc := 17) d8004_17 rfl ?_
  refine ju_getr (pc := 18) (b := (a + 3)) d8004_18 jF_8_95 rfl A.1 A.2.2.2.1.2 ?_
  refine je_iload2 (pc := 21) d8004_21 rfl ?_
  refine ju_iald (pc := 22) (jn := (m)) d8004_22 A.2.2.2.1.1 (vp_in_nI (by omega) (by decide)) (nI_clamp (by omega)) ?_
  refine je_isub (pc := 23) d8004_23 ?_
  refine ju_istore3 (pc := 24) (lv' := [some _, some _, some _, some _]) d8004_24 rfl rfl ?_
  refine je_iload3 (pc := 25) d8004_25 rfl ?_
  refine je_bipush (pc := 26) (v := -3) d8004_26 rfl ?_
  refine je_iconst (pc := 28) (v := 3) d8004_28 rfl ?_
  refine ju_callsN (pc := 29) (as := [_, _, _]) d8004_29 jL_8_98 jM_Db_held rfl rfl (by exact Nat.le_of_ble_eq_true rfl) (t_Db_held (d + 0) _ _ _) (fun r29 h29 q29 => ?_)
  obtain ⟨rfl, e29⟩ := q29
  obtain rfl := e29.symm
  refine je_iret (pc := 32) d8004_32 rfl ?_
  exact ⟨rfl, rfl⟩
set_option maxHeartbeats 2000000 in
theorem t_Lw_sag (d : Nat) {bc bs : Nat} {h : jx_H} {s a mi : Nat} (H : jx_St h) (hs : h.2.2.2 51 0 = some s) (P : jx_Sp h s) (A : jx_La h a) (dj : (s + 12 < a ∨ a + 4 < s) ∧ (a + 4 < 51 ∨ 66 < a) ∧ (s + 12 < 51 ∨ 66 < s)) (hm : h.2.1 s 0 = nI mi) (hmi : 0 < mi ∧ mi ≤ 10) : jx_Tr (d + 2) bc bs 8006 [.ref 51, .ref a] h (fun r h' => r = none ∧ fC (fun b => b = a + 1) h h' ∧ ∀ m, m < 10 → h'.2.1 (a + 1) m = sagN (h.2.1 a 4) (mi - 1) (h.2.1 (a + 1)) m) := by
  refine jx_tr jM_Lw_sag rfl rfl (lv := [some (.ref 51), some (.ref a), none, none, none]) rfl ?_
  refine je_iconst (pc := 0) (v := 0) d8006_0 rfl ?_
  refine ju_istore2 (pc := 1) (lv' := [some _, some _, some _, none, none]) d8006_1 rfl rfl ?_
  refine je_loop (σ := Option Value × Option Value) (mi - 1) (fun k xx => [some (.ref 51), some (.ref a), some (.int (nI k)), xx.1, xx.2]) (fun k _ h' => fC (fun b => b = a + 1) h h' ∧ ∀ m, m < 10 → h'.2.1 (a + 1) m = sagN (h.2.1 a 4) k (h.2.1 (a + 1)) m) (fun k xx h' hk e kk => ?_) (fun xx h' e => ?_) (0) (none, none) h (by omega) ⟨fC.rf, fun m _ => rfl⟩
  · obtain ⟨e1, e2⟩ := e
    have H1 := e1.St H
    have P1 := e1.Sp P
    have A1 := e1.La A
    have hs1 := e1.rr hs
    have em : h'.2.1 s 0 = nI mi := by rw [e1.2 s (by omega)]; exact hm
    have eb : h'.2.1 a 4 = h.2.1 a 4 := by rw [e1.2 a (by omega)]
    have l0 := e2 k (by omega)
    have l1 := e2 (k + 1) (by omega)
    generalize hL : sagN (h.2.1 a 4) k (h.2.1 (a + 1)) = L at e2 l0 l1
    refine je_iload2 (pc := 2) d8006_2 rfl ?_
    refine je_iconst (pc := 3) (v := 1) d8006_3 rfl ?_
    refine je_iadd (pc := 4) d8006_4 ?_
    refine ju_eqi (v := nI ((k) + 1)) (nI_add (k) 1) ?_
    refine je_aload0 (pc := 5) d8006_5 rfl ?_
    refine ju_getr (pc := 6) (b := s) d8006_6 jF_8_12 rfl (sK51 H1) hs1 ?_
    refine ju_geti (pc := 9) d8006_9 jF_8_50 rfl P1.1.1 ?_
    refine ju_eqi (v := nI mi) em ?_
    refine jn_icge (pc := 12) (a := ((k) + 1)) (b := (mi)) 109 d8006_12 (by decide) (by omega) (by omega) (fun c12 => by exfalso; omega) (fun c12 => ?_)
    refine je_aload1 (pc := 15) d8006_15 rfl ?_
    refine ju_getr (pc := 16) (b := (a + 1)) d8006_16 jF_8_102 rfl A1.1 A1.2.1.2 ?_
    refine je_iload2 (pc := 19) d8006_19 rfl ?_
    refine ju_iald (pc := 20) (jn := (k)) d8006_20 A1.2.1.1 (vp_in_nI (by omega) (by decide)) (nI_clamp (by omega)) ?_
    refine ju_eqi (v := L k) l0 ?_
    refine je_aload1 (pc := 21) d8006_21 rfl ?_
    refine ju_getr (pc := 22) (b := (a + 1)) d8006_22 jF_8_102 rfl A1.1 A1.2.1.2 ?_
    refine je_iload2 (pc := 25) d8006_25 rfl ?_
    refine je_iconst (pc := 26) (v := 1) d8006_26 rfl ?_
    refine je_iadd (pc := 27) d8006_27 ?_
    refine ju_eqi (v := nI ((k) + 1)) (nI_add (k) 1) ?_
    refine ju_iald (pc := 28) (jn := ((k) + 1)) d8006_28 A1.2.1.1 (vp_in_nI (by omega) (by decide)) (nI_clamp (by omega)) ?_
    refine ju_eqi (v := L (k + 1)) l1 ?_
    refine je_isub (pc := 29) d8006_29 ?_
    refine ju_istore3 (pc := 30) (lv' := [some _, some _, some _, some _, _]) d8006_30 rfl rfl ?_
    refine je_iload3 (pc := 31) d8006_31 rfl ?_
    refine je_iconst (pc := 32) (v := 4) d8006_32 rfl ?_
    refine je_icgt (pc := 33) 42 d8006_33 (by decide) (fun c33 => ?_) (fun c33 => ?_)
    · refine je_iload3 (pc := 42) d8006_42 rfl ?_
      refine ju_tern1 (pc := 43) (V := (if 0 < L k - L (k + 1) then -1 else 1)) 51 ?_ (fun jn43 => ?_)
      · refine ju_istore (pc := 51) (lv' := [some _, some _, some _, some _, some _]) d8006_51 rfl rfl ?_
        refine je_aload1 (pc := 53) d8006_53 rfl ?_
        refine ju_getr (pc := 54) (b := (a + 1)) d8006_54 jF_8_102 rfl A1.1 A1.2.1.2 ?_
        refine je_iload2 (pc := 57) d8006_57 rfl ?_
        refine je_dup2 (pc := 58) d8006_58 rfl rfl ?_
        refine ju_iald (pc := 59) (jn := (k)) d8006_59 A1.2.1.1 (vp_in_nI (by omega) (by decide)) (nI_clamp (by omega)) ?_
        refine ju_eqi (v := L k) l0 ?_
        refine je_aload1 (pc := 60) d8006_60 rfl ?_
        refine je_iload2 (pc := 61) d8006_61 rfl ?_
        refine ju_callv (pc := 62) (as := [_]) d8006_62 jL_8_53 jM_La_isBaked rfl (by decide) A1.1 rfl (by exact Nat.le_of_ble_eq_true rfl) (t_La_isBaked (d + 0) A1 _) (fun r62 h62 q62 => ?_)
        obtain ⟨rfl, e62⟩ := q62
        obtain rfl := e62.symm
        refine ju_tern1 (pc := 65) (V := ngF (h.2.1 a 4) k (if 0 < L k - L (k + 1) then -1 else 1)) 74 ?_ (fun jn65 => ?_)
        · refine je_iadd (pc := 74) d8006_74 ?_
          refine ju_iast (pc := 75) (jn := (k)) d8006_75 A1.2.1.1 (vp_in_nI (by omega) (by decide)) (nI_clamp (by omega)) ?_
          refine je_aload1 (pc := 76) d8006_76 rfl ?_
          refine ju_getr (pc := 77) (b := (a + 1)) d8006_77 jF_8_102 rfl A1.wI.1 A1.wI.2.1.2 ?_
          refine je_iload2 (pc := 80) d8006_80 rfl ?_
          refine je_iconst (pc := 81) (v := 1) d8006_81 rfl ?_
          refine je_iadd (pc := 82) d8006_82 ?_
          refine ju_eqi (v := nI ((k) + 1)) (nI_add (k) 1) ?_
          refine je_dup2 (pc := 83) d8006_83 rfl rfl ?_
          refine ju_iald (pc := 84) (jn := ((k) + 1)) d8006_84 A1.wI.2.1.1 (vp_in_nI (by omega) (by decide)) (nI_clamp (by omega)) ?_
          refine ju_eqi (v := L (k + 1)) (by rw [wI_at, jx_up_ne _ _ (by omega)]; exact l1) ?_
          refine je_aload1 (pc := 85) d8006_85 rfl ?_
          refine je_iload2 (pc := 86) d8006_86 rfl ?_
          refine je_iconst (pc := 87) (v := 1) d8006_87 rfl ?_
          refine je_iadd (pc := 88) d8006_88 ?_
          refine ju_eqi (v := nI ((k) + 1)) (nI_add (k) 1) ?_
          refine ju_callv (pc := 89) (as := [_]) d8006_89 jL_8_53 jM_La_isBaked rfl (by decide) A1.wI.1 rfl (by exact Nat.le_of_ble_eq_true rfl) (t_La_isBaked (d + 0) A1.wI _) (fun r89 h89 q89 => ?_)
          obtain ⟨rfl, e89⟩ := q89
          obtain rfl := e89.symm
          refine ju_tern1 (pc := 92) (V := ngF (h.2.1 a 4) (k + 1) (if 0 < L k - L (k + 1) then -1 else 1)) 101 ?_ (fun jn92 => ?_)
          · refine je_isub (pc := 101) d8006_101 ?_
            refine ju_iast (pc := 102) (jn := ((k) + 1)) d8006_102 A1.wI.2.1.1 (vp_in_nI (by omega) (by decide)) (nI_clamp (by omega)) ?_
            refine ju_incN (pc := 103) (v := nI ((k) + 1)) (lv' := [some _, some _, some _, some _, some _]) d8006_103 rfl (nI_1 (k)) rfl ?_
            refine je_goto (pc := 106) 2 d8006_106 (by decide) ?_
            refine kk (some _, some _) _ ⟨(e1.wI rfl).wI rfl, fun m hm' => ?_⟩
            rw [wI_at, wI_at, sagN, hL]
            unfold sag1
            rw [if_pos (Or.inl c33)]
            unfold jx_up
            rw [e2 m hm']
          · refine jb_ifeq (pc := 92) 99 d8006_92 (by decide) (fun c92 => ?_) (fun c92 => ?_)
            · refine je_iload (pc := 99) d8006_99 rfl ?_
              refine ju_eqi (v := ngF (h.2.1 a 4) (k + 1) (if 0 < L k - L (k + 1) then -1 else 1)) (by rw [wI_ne _ _ _ (by omega), eb] at c92; unfold ngF; rw [if_neg c92]) ?_
              exact jn92
            · refine je_iconst (pc := 95) (v := 0) d8006_95 rfl ?_
              refine je_goto (pc := 96) 101 d8006_96 (by decide) ?_
              refine ju_eqi (v := ngF (h.2.1 a 4) (k + 1) (if 0 < L k - L (k + 1) then -1 else 1)) (by rw [wI_ne _ _ _ (by omega), eb] at c92; unfold ngF; rw [if_pos c92]) ?_
              exact jn92
        · refine jb_ifeq (pc := 65) 72 d8006_65 (by decide) (fun c65 => ?_) (fun c65 => ?_)
          · refine je_iload (pc := 72) d8006_72 rfl ?_
            refine ju_eqi (v := ngF (h.2.1 a 4) k (if 0 < L k - L (k + 1) then -1 else 1)) (by rw [eb] at c65; unfold ngF; rw [if_neg c65]) ?_
            exact jn65
          · refine je_iconst (pc := 68) (v := 0) d8006_68 rfl ?_
            refine je_goto (pc := 69) 74 d8006_69 (by decide) ?_
            refine ju_eqi (v := ngF (h.2.1 a 4) k (if 0 < L k - L (k + 1) then -1 else 1)) (by rw [eb] at c65; unfold ngF; rw [if_pos c65]) ?_
            exact jn65
      · refine ju_ifle (pc := 43) 50 d8006_43 (by decide) (fun c43 => ?_) (fun c43 => ?_)
        · refine je_iconst (pc := 50) (v := 1) d8006_50 rfl ?_
          refine ju_eqi (v := (if 0 < L k - L (k + 1) then -1 else 1)) (by rw [if_neg c43]) ?_
          exact jn43
        · refine je_iconst (pc := 46) (v := -1) d8006_46 rfl ?_
          refine je_goto (pc := 47) 51 d8006_47 (by decide) ?_
          refine ju_eqi (v := (if 0 < L k - L (k + 1) then -1 else 1)) (by rw [if_pos c43]) ?_
          exact jn43
    · refine je_iload3 (pc := 36) d8006_36 rfl ?_
      refine je_bipush (pc := 37) (v := -4) d8006_37 rfl ?_
      refine ju_icge (pc := 39) 103 d8006_39 (by decide) (fun c39 => ?_) (fun c39 => ?_)
      · refine ju_incN (pc := 103) (v := nI ((k) + 1)) (lv' := [some _, some _, some _, some _, _]) d8006_103 rfl (nI_1 (k)) rfl ?_
        refine je_goto (pc := 106) 2 d8006_106 (by decide) ?_
        refine kk (some _, _) _ ⟨e1, fun m hm' => ?_⟩
        rw [e2 m hm', sagN, hL]
        unfold sag1
        rw [if_neg (fun q => q.elim c33 c39)]
      · refine je_iload3 (pc := 42) d8006_42 rfl ?_
        refine ju_tern1 (pc := 43) (V := (if 0 < L k - L (k + 1) then -1 else 1)) 51 ?_ (fun jn43 => ?_)
        · refine ju_istore (pc := 51) (lv' := [some _, some _, some _, some _, some _]) d8006_51 rfl rfl ?_
          refine je_aload1 (pc := 53) d8006_53 rfl ?_
          refine ju_getr (pc := 54) (b := (a + 1)) d8006_54 jF_8_102 rfl A1.1 A1.2.1.2 ?_
          refine je_iload2 (pc := 57) d8006_57 rfl ?_
          refine je_dup2 (pc := 58) d8006_58 rfl rfl ?_
          refine ju_iald (pc := 59) (jn := (k)) d8006_59 A1.2.1.1 (vp_in_nI (by omega) (by decide)) (nI_clamp (by omega)) ?_
          refine ju_eqi (v := L k) l0 ?_
          refine je_aload1 (pc := 60) d8006_60 rfl ?_
          refine je_iload2 (pc := 61) d8006_61 rfl ?_
          refine ju_callv (pc := 62) (as := [_]) d8006_62 jL_8_53 jM_La_isBaked rfl (by decide) A1.1 rfl (by exact Nat.le_of_ble_eq_true rfl) (t_La_isBaked (d + 0) A1 _) (fun r62 h62 q62 => ?_)
          obtain ⟨rfl, e62⟩ := q62
          obtain rfl := e62.symm
          refine ju_tern1 (pc := 65) (V := ngF (h.2.1 a 4) k (if 0 < L k - L (k + 1) then -1 else 1)) 74 ?_ (fun jn65 => ?_)
          · refine je_iadd (pc := 74) d8006_74 ?_
            refine ju_iast (pc := 75) (jn := (k)) d8006_75 A1.2.1.1 (vp_in_nI (by omega) (by decide)) (nI_clamp (by omega)) ?_
            refine je_aload1 (pc := 76) d8006_76 rfl ?_
            refine ju_getr (pc := 77) (b := (a + 1)) d8006_77 jF_8_102 rfl A1.wI.1 A1.wI.2.1.2 ?_
            refine je_iload2 (pc := 80) d8006_80 rfl ?_
            refine je_iconst (pc := 81) (v := 1) d8006_81 rfl ?_
            refine je_iadd (pc := 82) d8006_82 ?_
            refine ju_eqi (v := nI ((k) + 1)) (nI_add (k) 1) ?_
            refine je_dup2 (pc := 83) d8006_83 rfl rfl ?_
            refine ju_iald (pc := 84) (jn := ((k) + 1)) d8006_84 A1.wI.2.1.1 (vp_in_nI (by omega) (by decide)) (nI_clamp (by omega)) ?_
            refine ju_eqi (v := L (k + 1)) (by rw [wI_at, jx_up_ne _ _ (by omega)]; exact l1) ?_
            refine je_aload1 (pc := 85) d8006_85 rfl ?_
            refine je_iload2 (pc := 86) d8006_86 rfl ?_
            refine je_iconst (pc := 87) (v := 1) d8006_87 rfl ?_
            refine je_iadd (pc := 88) d8006_88 ?_
            refine ju_eqi (v := nI ((k) + 1)) (nI_add (k) 1) ?_
            refine ju_callv (pc := 89) (as := [_]) d8006_89 jL_8_53 jM_La_isBaked rfl (by decide) A1.wI.1 rfl (by exact Nat.le_of_ble_eq_true rfl) (t_La_isBaked (d + 0) A1.wI _) (fun r89 h89 q89 => ?_)
            obtain ⟨rfl, e89⟩ := q89
            obtain rfl := e89.symm
            refine ju_tern1 (pc := 92) (V := ngF (h.2.1 a 4) (k + 1) (if 0 < L k - L (k + 1) then -1 else 1)) 101 ?_ (fun jn92 => ?_)
            · refine je_isub (pc := 101) d8006_101 ?_
              refine ju_iast (pc := 102) (jn := ((k) + 1)) d8006_102 A1.wI.2.1.1 (vp_in_nI (by omega) (by decide)) (nI_clamp (by omega)) ?_
              refine ju_incN (pc := 103) (v := nI ((k) + 1)) (lv' := [some _, some _, some _, some _, some _]) d8006_103 rfl (nI_1 (k)) rfl ?_
              refine je_goto (pc := 106) 2 d8006_106 (by decide) ?_
              refine kk (some _, some _) _ ⟨(e1.wI rfl).wI rfl, fun m hm' => ?_⟩
              rw [wI_at, wI_at, sagN, hL]
              unfold sag1
              rw [if_pos (Or.inr c39)]
              unfold jx_up
              rw [e2 m hm']
            · refine jb_ifeq (pc := 92) 99 d8006_92 (by decide) (fun c92 => ?_) (fun c92 => ?_)
              · refine je_iload (pc := 99) d8006_99 rfl ?_
                refine ju_eqi (v := ngF (h.2.1 a 4) (k + 1) (if 0 < L k - L (k + 1) then -1 else 1)) (by rw [wI_ne _ _ _ (by omega), eb] at c92; unfold ngF; rw [if_neg c92]) ?_
                exact jn92
              · refine je_iconst (pc := 95) (v := 0) d8006_95 rfl ?_
                refine je_goto (pc := 96) 101 d8006_96 (by decide) ?_
                refine ju_eqi (v := ngF (h.2.1 a 4) (k + 1) (if 0 < L k - L (k + 1) then -1 else 1)) (by rw [wI_ne _ _ _ (by omega), eb] at c92; unfold ngF; rw [if_pos c92]) ?_
                exact jn92
          · refine jb_ifeq (pc := 65) 72 d8006_65 (by decide) (fun c65 => ?_) (fun c65 => ?_)
            · refine je_iload (pc := 72) d8006_72 rfl ?_
              refine ju_eqi (v := ngF (h.2.1 a 4) k (if 0 < L k - L (k + 1) then -1 else 1)) (by rw [eb] at c65; unfold ngF; rw [if_neg c65]) ?_
              exact jn65
            · refine je_iconst (pc := 68) (v := 0) d8006_68 rfl ?_
              refine je_goto (pc := 69) 74 d8006_69 (by decide) ?_
              refine ju_eqi (v := ngF (h.2.1 a 4) k (if 0 < L k - L (k + 1) then -1 else 1)) (by rw [eb] at c65; unfold ngF; rw [if_pos c65]) ?_
              exact jn65
        · refine ju_ifle (pc := 43) 50 d8006_43 (by decide) (fun c43 => ?_) (fun c43 => ?_)
          · refine je_iconst (pc := 50) (v := 1) d8006_50 rfl ?_
            refine ju_eqi (v := (if 0 < L k - L (k + 1) then -1 else 1)) (by rw [if_neg c43]) ?_
            exact jn43
          · refine je_iconst (pc := 46) (v := -1) d8006_46 rfl ?_
            refine je_goto (pc := 47) 51 d8006_47 (by decide) ?_
            refine ju_eqi (v := (if 0 < L k - L (k + 1) then -1 else 1)) (by rw [if_pos c43]) ?_
            exact jn43
  · obtain ⟨e1, e2⟩ := e
    have H1 := e1.St H
    have P1 := e1.Sp P
    have A1 := e1.La A
    have hs1 := e1.rr hs
    have em : h'.2.1 s 0 = nI mi := by rw [e1.2 s (by omega)]; exact hm
    have eb : h'.2.1 a 4 = h.2.1 a 4 := by rw [e1.2 a (by omega)]
    refine je_iload2 (pc := 2) d8006_2 rfl ?_
    refine je_iconst (pc := 3) (v := 1) d8006_3 rfl ?_
    refine je_iadd (pc := 4) d8006_4 ?_
    refine ju_eqi (v := nI (((mi - 1)) + 1)) (nI_add ((mi - 1)) 1) ?_
    refine je_aload0 (pc := 5) d8006_5 rfl ?_
    refine ju_getr (pc := 6) (b := s) d8006_6 jF_8_12 rfl (sK51 H1) hs1 ?_
    refine ju_geti (pc := 9) d8006_9 jF_8_50 rfl P1.1.1 ?_
    refine ju_eqi (v := nI mi) em ?_
    refine jn_icge (pc := 12) (a := (((mi - 1)) + 1)) (b := (mi)) 109 d8006_12 (by decide) (by omega) (by omega) (fun c12 => ?_) (fun c12 => by exfalso; omega)
    refine je_ret (pc := 109) d8006_109 rfl ?_
    exact ⟨rfl, e1, e2⟩
