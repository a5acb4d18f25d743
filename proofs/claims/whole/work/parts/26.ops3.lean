/-! small helpers of both sides; force, mile, village, warm -/
theorem b2_01 (q : Prop) [Decidable q] : b2 q = 0 ∨ b2 q = 1 := by unfold b2; split <;> simp
theorem b2_t {q : Prop} [Decidable q] (h : q) : b2 q = 1 := if_pos h
theorem b2_f {q : Prop} [Decidable q] (h : ¬ q) : b2 q = 0 := if_neg h
theorem b2_0 {q : Prop} [Decidable q] : b2 q = 0 ↔ ¬ q := by unfold b2; split <;> simp [*]
theorem b2_c {q r : Prop} [Decidable q] [Decidable r] (h : q ↔ r) : b2 q = b2 r := by unfold b2; simp [h]
/-- a mile, a village that there is -/
abbrev isM (x : Int32) (n : Nat) : Prop := ¬ x < 0 ∧ x < nI n
theorem isM_of {x : Int32} {n : Nat} (h : isM x n) (hn : n < 2 ^ 31) : ∃ j, j < n ∧ x = nI j := by
  obtain ⟨j, hj, rfl⟩ := nI_of h.1
  exact ⟨j, (nI_ltI hj hn).mp h.2, rfl⟩
theorem isM_nI {j n : Nat} (h : j < n) (hn : n < 2 ^ 31) : isM (nI j) n := ⟨nI_pos (by omega), nI_lt h hn⟩
/-- baked, by bits -/
abbrev bkd (b x : Int32) : Prop := ¬ ((b >>> (x &&& 31)) &&& 1) = 0
theorem and1 (v : Int32) : v &&& 1 = 0 ∨ v &&& 1 = 1 := by
  obtain ⟨j, hj, e⟩ := pk_andE v (m := 1) 1 (by decide)
  rw [e]
  rcases (show j = 0 ∨ j = 1 by omega) with rfl | rfl
  · exact Or.inl rfl
  · exact Or.inr rfl
theorem bkd_1 {b x : Int32} : ((b >>> (x &&& 31)) &&& 1) = 1 ↔ bkd b x := by
  rcases and1 (b >>> (x &&& 31)) with e | e <;> simp [bkd, e]
def mhold (v lo hi : Int32) : Int32 := if v < lo then lo else if hi < v then hi else v
/-- 0 west, 1 east, 2 on the line -/
def sdV (l q : Int32) : Int32 := if q < l then 0 else if l < q then 1 else 2
set_option maxHeartbeats 2000000 in
theorem t_Mo_in (d : Nat) {bc bs : Nat} {h : jx_H} (v lo hi : Int64) : jx_Tr (d + 1) bc bs 12018 [.long v, .long lo, .long hi] h (fun r h' => r = some (.int (b2 (lo ≤ v ∧ v ≤ hi))) ∧ h' = h) := by
  refine jx_tr jM_Mo_in rfl rfl (lv := [some (.long v), none, some (.long lo), none, some (.long hi), none]) rfl ?_
  refine je_lload0 (pc := 0) d12018_0 rfl ?_
  refine je_lload2 (pc := 1) d12018_1 rfl ?_
  refine je_lcmp (pc := 2) d12018_2 ?_
  refine je_iflt (pc := 3) 17 d12018_3 (by decide) (fun c3 => ?_) (fun c3 => ?_)
  · refine je_iconst (pc := 17) (v := 0) d12018_17 rfl ?_
    refine je_zret (pc := 18) d12018_18 rfl (by decide) ?_
    exact ⟨lf_f (fun z => absurd z.1 (Int64.not_le.mpr ((lg_cmp_lt _ _).mp c3))), rfl⟩
  · refine je_lload0 (pc := 6) d12018_6 rfl ?_
    refine je_lload (pc := 7) d12018_7 rfl ?_
    refine je_lcmp (pc := 9) d12018_9 ?_
    refine je_ifgt (pc := 10) 17 d12018_10 (by decide) (fun c10 => ?_) (fun c10 => ?_)
    · refine je_iconst (pc := 17) (v := 0) d12018_17 rfl ?_
      refine je_zret (pc := 18) d12018_18 rfl (by decide) ?_
      exact ⟨lf_f (fun z => absurd z.2 (Int64.not_le.mpr ((lg_cmp_gt _ _).mp c10))), rfl⟩
    · refine je_iconst (pc := 13) (v := 1) d12018_13 rfl ?_
      refine je_goto (pc := 14) 18 d12018_14 (by decide) ?_
      refine je_zret (pc := 18) d12018_18 rfl (by decide) ?_
      exact ⟨lf_t ⟨Int64.not_lt.mp (fun z => c3 ((lg_cmp_lt _ _).mpr z)), Int64.not_lt.mp (fun z => c10 ((lg_cmp_gt _ _).mpr z))⟩, rfl⟩
set_option maxHeartbeats 2000000 in
theorem t_Mo_has (d : Nat) {bc bs : Nat} {h : jx_H} (b x : Int32) : jx_Tr (d + 1) bc bs 12044 [.int b, .int x] h (fun r h' => r = some (.int (b2 (bkd b x))) ∧ h' = h) := by
  refine jx_tr jM_Mo_has rfl rfl (lv := [some (.int b), some (.int x)]) rfl ?_
  refine je_iload0 (pc := 0) d12044_0 rfl ?_
  refine je_iload1 (pc := 1) d12044_1 rfl ?_
  refine je_ishr (pc := 2) d12044_2 ?_
  refine je_iconst (pc := 3) (v := 1) d12044_3 rfl ?_
  refine je_iand (pc := 4) d12044_4 ?_
  refine je_iconst (pc := 5) (v := 1) d12044_5 rfl ?_
  refine je_icne (pc := 6) 13 d12044_6 (by decide) (fun c6 => ?_) (fun c6 => ?_)
  · refine je_iconst (pc := 13) (v := 0) d12044_13 rfl ?_
    refine je_zret (pc := 14) d12044_14 rfl (by decide) ?_
    exact ⟨lf_f (fun z => c6 (bkd_1.mpr z)), rfl⟩
  · refine je_iconst (pc := 9) (v := 1) d12044_9 rfl ?_
    refine je_goto (pc := 10) 14 d12044_10 (by decide) ?_
    refine je_zret (pc := 14) d12044_14 rfl (by decide) ?_
    exact ⟨lf_t (bkd_1.mp c6), rfl⟩
set_option maxHeartbeats 2000000 in
theorem t_Mo_isStrip (d : Nat) {bc bs : Nat} {h : jx_H} (H : jx_St h) : jx_Tr (d + 1) bc bs 12049 [.ref 253] h (fun r h' => r = some (.int (b2 (0 < h.2.1 254 0))) ∧ h' = h) := by
  refine jx_tr jM_Mo_isStrip rfl rfl (lv := [some (.ref 253)]) rfl ?_
  refine je_aload0 (pc := 0) d12049_0 rfl ?_
  refine ju_getr (pc := 1) (b := 254) d12049_1 jF_12_9 rfl (sK253 H) (sR253_1 H) ?_
  refine je_iconst (pc := 4) (v := 0) d12049_4 rfl ?_
  refine ju_iald (pc := 5) (jn := 0) d12049_5 (sK254 H) (by first | assumption | exact jx_ok_dec (by decide)) (by decide) ?_
  refine ju_ifle (pc := 6) 13 d12049_6 (by decide) (fun c6 => ?_) (fun c6 => ?_)
  · refine je_iconst (pc := 13) (v := 0) d12049_13 rfl ?_
    refine je_zret (pc := 14) d12049_14 rfl (by decide) ?_
    exact ⟨lf_f c6, rfl⟩
  · refine je_iconst (pc := 9) (v := 1) d12049_9 rfl ?_
    refine je_goto (pc := 10) 14 d12049_10 (by decide) ?_
    refine je_zret (pc := 14) d12049_14 rfl (by decide) ?_
    exact ⟨lf_t c6, rfl⟩
theorem in_M (x : Int32) {n : Nat} (hn : n < 1000) : b2 ((0 : Int64) ≤ x.toInt64 ∧ x.toInt64 ≤ (nI n - 1).toInt64) = b2 (isM x n) := by
  refine b2_c ?_
  have e1 : (nI n - 1).toInt = (n : Int) - 1 := pk_sub_toInt (a := n) (b := 1) (by omega) (by omega)
  rw [show (0 : Int64) = (0 : Int32).toInt64 from rfl, fa_wide_le, fa_wide_le, isM, Int32.not_lt]
  simp only [Int32.le_iff_toInt_le, Int32.lt_iff_toInt_lt, e1, nI_toInt (show n < 2 ^ 31 by omega)]
  constructor <;> intro ⟨a, b⟩ <;> exact ⟨a, by omega⟩
set_option maxHeartbeats 2000000 in
theorem t_Mo_isMile (d : Nat) {bc bs : Nat} {h : jx_H} {n : Nat} (H : jx_St h) (x : Int32) (hn : h.2.1 254 0 = nI n) (hn2 : n < 1000) : jx_Tr (d + 2) bc bs 12042 [.ref 253, .int x] h (fun r h' => r = some (.int (b2 (isM x n))) ∧ h' = h) := by
  refine jx_tr jM_Mo_isMile rfl rfl (lv := [some (.ref 253), some (.int x)]) rfl ?_
  refine je_iload1 (pc := 0) d12042_0 rfl ?_
  refine je_i2l (pc := 1) d12042_1 ?_
  refine je_lconst0 (pc := 2) d12042_2 ?_
  refine je_aload0 (pc := 3) d12042_3 rfl ?_
  refine ju_getr (pc := 4) (b := 254) d12042_4 jF_12_9 rfl (sK253 H) (sR253_1 H) ?_
  refine je_iconst (pc := 7) (v := 0) d12042_7 rfl ?_
  refine ju_iald (pc := 8) (jn := 0) d12042_8 (sK254 H) (by first | assumption | exact jx_ok_dec (by decide)) (by decide) ?_
  refine je_iconst (pc := 9) (v := 1) d12042_9 rfl ?_
  refine je_isub (pc := 10) d12042_10 ?_
  refine je_i2l (pc := 11) d12042_11 ?_
  refine ju_calls (pc := 12) (as := [_, _, _]) d12042_12 jL_12_170 jM_Mo_in rfl rfl (by exact Nat.le_of_ble_eq_true rfl) (t_Mo_in (d + 0) _ _ _) (fun r12 h12 q12 => ?_)
  obtain ⟨rfl, e12⟩ := q12
  obtain rfl := e12.symm
  refine je_zret (pc := 15) d12042_15 rfl (b2_01 _) ?_
  exact ⟨by rw [← in_M x hn2, ← hn], rfl⟩
set_option maxHeartbeats 2000000 in
theorem t_Mo_isVillage (d : Nat) {bc bs : Nat} {h : jx_H} {n : Nat} (H : jx_St h) (x : Int32) (hn : h.2.1 254 2 = nI n) (hn2 : n < 1000) : jx_Tr (d + 2) bc bs 12046 [.ref 253, .int x] h (fun r h' => r = some (.int (b2 (isM x n))) ∧ h' = h) := by
  refine jx_tr jM_Mo_isVillage rfl rfl (lv := [some (.ref 253), some (.int x)]) rfl ?_
  refine je_iload1 (pc := 0) d12046_0 rfl ?_
  refine je_i2l (pc := 1) d12046_1 ?_
  refine je_lconst0 (pc := 2) d12046_2 ?_
  refine je_aload0 (pc := 3) d12046_3 rfl ?_
  refine ju_getr (pc := 4) (b := 254) d12046_4 jF_12_9 rfl (sK253 H) (sR253_1 H) ?_
  refine je_iconst (pc := 7) (v := 2) d12046_7 rfl ?_
  refine ju_iald (pc := 8) (jn := 2) d12046_8 (sK254 H) (by first | assumption | exact jx_ok_dec (by decide)) (by decide) ?_
  refine je_iconst (pc := 9) (v := 1) d12046_9 rfl ?_
  refine je_isub (pc := 10) d12046_10 ?_
  refine je_i2l (pc := 11) d12046_11 ?_
  refine ju_calls (pc := 12) (as := [_, _, _]) d12046_12 jL_12_170 jM_Mo_in rfl rfl (by exact Nat.le_of_ble_eq_true rfl) (t_Mo_in (d + 0) _ _ _) (fun r12 h12 q12 => ?_)
  obtain ⟨rfl, e12⟩ := q12
  obtain rfl := e12.symm
  refine je_zret (pc := 15) d12046_15 rfl (b2_01 _) ?_
  exact ⟨by rw [← in_M x hn2, ← hn], rfl⟩
set_option maxHeartbeats 2000000 in
theorem t_Mo_isBaked (d : Nat) {bc bs : Nat} {h : jx_H} (H : jx_St h) (x : Int32) : jx_Tr (d + 2) bc bs 12043 [.ref 253, .int x] h (fun r h' => r = some (.int (b2 (bkd (h.2.1 254 4) x))) ∧ h' = h) := by
  refine jx_tr jM_Mo_isBaked rfl rfl (lv := [some (.ref 253), some (.int x)]) rfl ?_
  refine je_aload0 (pc := 0) d12043_0 rfl ?_
  refine ju_getr (pc := 1) (b := 254) d12043_1 jF_12_9 rfl (sK253 H) (sR253_1 H) ?_
  refine je_iconst (pc := 4) (v := 4) d12043_4 rfl ?_
  refine ju_iald (pc := 5) (jn := 4) d12043_5 (sK254 H) (by first | assumption | exact jx_ok_dec (by decide)) (by decide) ?_
  refine je_iload1 (pc := 6) d12043_6 rfl ?_
  refine ju_calls (pc := 7) (as := [_, _]) d12043_7 jL_12_174 jM_Mo_has rfl rfl (by exact Nat.le_of_ble_eq_true rfl) (t_Mo_has (d + 0) _ _) (fun r7 h7 q7 => ?_)
  obtain ⟨rfl, e7⟩ := q7
  obtain rfl := e7.symm
  refine je_zret (pc := 10) d12043_10 rfl (b2_01 _) ?_
  exact ⟨rfl, rfl⟩
set_option maxHeartbeats 2000000 in
theorem t_Mo_isSoft (d : Nat) {bc bs : Nat} {h : jx_H} {n : Nat} (H : jx_St h) (x : Int32) (hn : h.2.1 254 0 = nI n) (hn2 : n < 1000) : jx_Tr (d + 3) bc bs 12071 [.ref 253, .int x] h (fun r h' => r = some (.int (b2 (isM x n ∧ ¬ bkd (h.2.1 254 4) x))) ∧ h' = h) := by
  refine jx_tr jM_Mo_isSoft rfl rfl (lv := [some (.ref 253), some (.int x)]) rfl ?_
  refine je_aload0 (pc := 0) d12071_0 rfl ?_
  refine je_iload1 (pc := 1) d12071_1 rfl ?_
  refine ju_callv (pc := 2) (as := [_]) d12071_2 jL_12_178 jM_Mo_isMile rfl (by decide) (sK253 H) rfl (by exact Nat.le_of_ble_eq_true rfl) (t_Mo_isMile (d + 0) H x hn hn2) (fun r2 h2 q2 => ?_)
  obtain ⟨rfl, e2⟩ := q2
  obtain rfl := e2.symm
  refine je_ifeq (pc := 5) 20 d12071_5 (by decide) (fun c5 => ?_) (fun c5 => ?_)
  · refine je_iconst (pc := 20) (v := 0) d12071_20 rfl ?_
    refine je_zret (pc := 21) d12071_21 rfl (by decide) ?_
    exact ⟨lf_f (fun z => b2_0.mp c5 z.1), rfl⟩
  · refine je_aload0 (pc := 8) d12071_8 rfl ?_
    refine je_iload1 (pc := 9) d12071_9 rfl ?_
    refine ju_callv (pc := 10) (as := [_]) d12071_10 jL_12_182 jM_Mo_isBaked rfl (by decide) (sK253 H) rfl (by exact Nat.le_of_ble_eq_true rfl) (t_Mo_isBaked (d + 0) H x) (fun r10 h10 q10 => ?_)
    obtain ⟨rfl, e10⟩ := q10
    obtain rfl := e10.symm
    refine je_ifne (pc := 13) 20 d12071_13 (by decide) (fun c13 => ?_) (fun c13 => ?_)
    · refine je_iconst (pc := 20) (v := 0) d12071_20 rfl ?_
      refine je_zret (pc := 21) d12071_21 rfl (by decide) ?_
      exact ⟨lf_f (fun z => z.2 (Decidable.not_not.mp (fun y => c13 (b2_0.mpr y)))), rfl⟩
    · refine je_iconst (pc := 16) (v := 1) d12071_16 rfl ?_
      refine je_goto (pc := 17) 21 d12071_17 (by decide) ?_
      refine je_zret (pc := 21) d12071_21 rfl (by decide) ?_
      exact ⟨lf_t ⟨Decidable.not_not.mp (fun y => c5 (b2_0.mpr y)), b2_0.mp c13⟩, rfl⟩
set_option maxHeartbeats 2000000 in
theorem t_Mo_sideOf (d : Nat) {bc bs : Nat} {h : jx_H} {v m : Nat} (H : jx_St h) (hv : v < 8) (hm : m < 10) (e : h.2.1 259 v = nI m) : jx_Tr (d + 1) bc bs 12047 [.ref 253, .int (nI v)] h (fun r h' => r = some (.int (sdV (h.2.1 255 m) (h.2.1 260 v))) ∧ h' = h) := by
  refine jx_tr jM_Mo_sideOf rfl rfl (lv := [some (.ref 253), some (.int (nI v)), none]) rfl ?_
  have okv : jx_ok (nI v) 8 := vp_in_nI hv (by decide)
  have ev : (nI v).toNatClampNeg = v := nI_clamp (by omega)
  have em : (nI m).toNatClampNeg = m := nI_clamp (by omega)
  refine je_aload0 (pc := 0) d12047_0 rfl ?_
  refine ju_getr (pc := 1) (b := 255) d12047_1 jF_12_13 rfl (sK253 H) (sR253_2 H) ?_
  refine je_aload0 (pc := 4) d12047_4 rfl ?_
  refine ju_getr (pc := 5) (b := 259) d12047_5 jF_12_25 rfl (sK253 H) (sR253_6 H) ?_
  refine je_iload1 (pc := 8) d12047_8 rfl ?_
  refine ju_iald (pc := 9) (jn := v) d12047_9 (sK259 H) (by first | assumption | exact jx_ok_dec (by decide)) ev ?_
  refine ju_iald (pc := 10) (jn := m) d12047_10 (sK255 H) (by rw [e]; exact vp_in_nI hm (by decide)) (by rw [e]; exact em) ?_
  refine ju_istore2 (pc := 11) (lv' := [some _, some _, some _]) d12047_11 rfl rfl ?_
  refine je_aload0 (pc := 12) d12047_12 rfl ?_
  refine ju_getr (pc := 13) (b := 260) d12047_13 jF_12_28 rfl (sK253 H) (sR253_7 H) ?_
  refine je_iload1 (pc := 16) d12047_16 rfl ?_
  refine ju_iald (pc := 17) (jn := v) d12047_17 (sK260 H) (by first | assumption | exact jx_ok_dec (by decide)) ev ?_
  refine je_iload2 (pc := 18) d12047_18 rfl ?_
  refine ju_icge (pc := 19) 26 d12047_19 (by decide) (fun c19 => ?_) (fun c19 => ?_)
  · refine je_aload0 (pc := 26) d12047_26 rfl ?_
    refine ju_getr (pc := 27) (b := 260) d12047_27 jF_12_28 rfl (sK253 H) (sR253_7 H) ?_
    refine je_iload1 (pc := 30) d12047_30 rfl ?_
    refine ju_iald (pc := 31) (jn := v) d12047_31 (sK260 H) (by first | assumption | exact jx_ok_dec (by decide)) ev ?_
    refine je_iload2 (pc := 32) d12047_32 rfl ?_
    refine ju_icle (pc := 33) 40 d12047_33 (by decide) (fun c33 => ?_) (fun c33 => ?_)
    · refine je_iconst (pc := 40) (v := 2) d12047_40 rfl ?_
      refine je_iret (pc := 41) d12047_41 rfl ?_
      exact ⟨by simp [sdV, *], rfl⟩
    · refine je_iconst (pc := 36) (v := 1) d12047_36 rfl ?_
      refine je_goto (pc := 37) 41 d12047_37 (by decide) ?_
      refine je_iret (pc := 41) d12047_41 rfl ?_
      exact ⟨by simp [sdV, *], rfl⟩
  · refine je_iconst (pc := 22) (v := 0) d12047_22 rfl ?_
    refine je_goto (pc := 23) 41 d12047_23 (by decide) ?_
    refine je_iret (pc := 41) d12047_41 rfl ?_
    exact ⟨by simp [sdV, *], rfl⟩
set_option maxHeartbeats 2000000 in
theorem t_Mo_warmthOf (d : Nat) {bc bs : Nat} {h : jx_H} (H : jx_St h) (x : Int32) (hx : ¬ x < 0) : jx_Tr (d + 1) bc bs 12050 [.ref 253, .int x] h (fun r h' => r = some (.int (if x < 100 then h.2.1 258 x.toNatClampNeg else 0)) ∧ h' = h) := by
  refine jx_tr jM_Mo_warmthOf rfl rfl (lv := [some (.ref 253), some (.int x)]) rfl ?_
  refine je_iload1 (pc := 0) d12050_0 rfl ?_
  refine je_bipush (pc := 1) (v := 100) d12050_1 rfl ?_
  refine ju_icge (pc := 3) 15 d12050_3 (by decide) (fun c3 => ?_) (fun c3 => ?_)
  · refine je_iconst (pc := 15) (v := 0) d12050_15 rfl ?_
    refine je_iret (pc := 16) d12050_16 rfl ?_
    exact ⟨by simp [*], rfl⟩
  · refine je_aload0 (pc := 6) d12050_6 rfl ?_
    refine ju_getr (pc := 7) (b := 258) d12050_7 jF_12_22 rfl (sK253 H) (sR253_5 H) ?_
    refine je_iload1 (pc := 10) d12050_10 rfl ?_
    refine ju_iald (pc := 11) d12050_11 (sK258 H) (by obtain ⟨j, hj, rfl⟩ := nI_of hx; exact vp_in_nI ((nI_ltI (b := 100) hj (by decide)).mp (by assumption)) (by decide)) rfl ?_
    refine je_goto (pc := 12) 16 d12050_12 (by decide) ?_
    refine je_iret (pc := 16) d12050_16 rfl ?_
    exact ⟨by simp [*], rfl⟩
set_option maxHeartbeats 2000000 in
theorem t_Db_hasStrip (d : Nat) {bc bs : Nat} {h : jx_H} {s : Nat} (H : jx_St h) (hr : h.2.2.2 26 0 = some s) (P : jx_Sp h s) : jx_Tr (d + 1) bc bs 12 [.ref 1] h (fun r h' => r = some (.int (b2 (0 < h.2.1 s 0))) ∧ h' = h) := by
  refine jx_tr jM_Db_hasStrip rfl rfl (lv := [some (.ref 1)]) rfl ?_
  refine je_aload0 (pc := 0) d12_0 rfl ?_
  refine ju_getr (pc := 1) (b := 26) d12_1 jF_0_41 rfl (sK1 H) (sR1_5 H) ?_
  refine ju_getr (pc := 4) (b := s) d12_4 jF_0_143 rfl (sK26 H) hr ?_
  refine ju_geti (pc := 7) d12_7 jF_0_293 rfl P.1.1 ?_
  refine ju_ifle (pc := 10) 17 d12_10 (by decide) (fun c10 => ?_) (fun c10 => ?_)
  · refine je_iconst (pc := 17) (v := 0) d12_17 rfl ?_
    refine je_zret (pc := 18) d12_18 rfl (by decide) ?_
    exact ⟨by simp [b2, *], rfl⟩
  · refine je_iconst (pc := 13) (v := 1) d12_13 rfl ?_
    refine je_goto (pc := 14) 18 d12_14 (by decide) ?_
    refine je_zret (pc := 18) d12_18 rfl (by decide) ?_
    exact ⟨by simp [b2, *], rfl⟩
set_option maxHeartbeats 2000000 in
theorem t_Db_isMile (d : Nat) {bc bs : Nat} {h : jx_H} {s : Nat} (H : jx_St h) (hr : h.2.2.2 26 0 = some s) (P : jx_Sp h s) (x : Int32) : jx_Tr (d + 1) bc bs 8 [.ref 1, .int x] h (fun r h' => r = some (.int (b2 (¬ x < 0 ∧ x < h.2.1 s 0))) ∧ h' = h) := by
  refine jx_tr jM_Db_isMile rfl rfl (lv := [some (.ref 1), some (.int x)]) rfl ?_
  refine je_iload1 (pc := 0) d8_0 rfl ?_
  refine je_iflt (pc := 1) 22 d8_1 (by decide) (fun c1 => ?_) (fun c1 => ?_)
  · refine je_iconst (pc := 22) (v := 0) d8_22 rfl ?_
    refine je_zret (pc := 23) d8_23 rfl (by decide) ?_
    exact ⟨by simp [b2, *], rfl⟩
  · refine je_iload1 (pc := 4) d8_4 rfl ?_
    refine je_aload0 (pc := 5) d8_5 rfl ?_
    refine ju_getr (pc := 6) (b := 26) d8_6 jF_0_41 rfl (sK1 H) (sR1_5 H) ?_
    refine ju_getr (pc := 9) (b := s) d8_9 jF_0_143 rfl (sK26 H) hr ?_
    refine ju_geti (pc := 12) d8_12 jF_0_293 rfl P.1.1 ?_
    refine ju_icge (pc := 15) 22 d8_15 (by decide) (fun c15 => ?_) (fun c15 => ?_)
    · refine je_iconst (pc := 22) (v := 0) d8_22 rfl ?_
      refine je_zret (pc := 23) d8_23 rfl (by decide) ?_
      exact ⟨by simp [b2, *], rfl⟩
    · refine je_iconst (pc := 18) (v := 1) d8_18 rfl ?_
      refine je_goto (pc := 19) 23 d8_19 (by decide) ?_
      refine je_zret (pc := 23) d8_23 rfl (by decide) ?_
      exact ⟨by simp [b2, *], rfl⟩
set_option maxHeartbeats 2000000 in
theorem t_Db_isVillage (d : Nat) {bc bs : Nat} {h : jx_H} {s : Nat} (H : jx_St h) (hr : h.2.2.2 26 0 = some s) (P : jx_Sp h s) (x : Int32) : jx_Tr (d + 1) bc bs 10 [.ref 1, .int x] h (fun r h' => r = some (.int (b2 (¬ x < 0 ∧ x < h.2.1 s 2))) ∧ h' = h) := by
  refine jx_tr jM_Db_isVillage rfl rfl (lv := [some (.ref 1), some (.int x)]) rfl ?_
  refine je_iload1 (pc := 0) d10_0 rfl ?_
  refine je_iflt (pc := 1) 22 d10_1 (by decide) (fun c1 => ?_) (fun c1 => ?_)
  · refine je_iconst (pc := 22) (v := 0) d10_22 rfl ?_
    refine je_zret (pc := 23) d10_23 rfl (by decide) ?_
    exact ⟨by simp [b2, *], rfl⟩
  · refine je_iload1 (pc := 4) d10_4 rfl ?_
    refine je_aload0 (pc := 5) d10_5 rfl ?_
    refine ju_getr (pc := 6) (b := 26) d10_6 jF_0_41 rfl (sK1 H) (sR1_5 H) ?_
    refine ju_getr (pc := 9) (b := s) d10_9 jF_0_143 rfl (sK26 H) hr ?_
    refine ju_geti (pc := 12) d10_12 jF_0_106 rfl P.1.1 ?_
    refine ju_icge (pc := 15) 22 d10_15 (by decide) (fun c15 => ?_) (fun c15 => ?_)
    · refine je_iconst (pc := 22) (v := 0) d10_22 rfl ?_
      refine je_zret (pc := 23) d10_23 rfl (by decide) ?_
      exact ⟨by simp [b2, *], rfl⟩
    · refine je_iconst (pc := 18) (v := 1) d10_18 rfl ?_
      refine je_goto (pc := 19) 23 d10_19 (by decide) ?_
      refine je_zret (pc := 23) d10_23 rfl (by decide) ?_
      exact ⟨by simp [b2, *], rfl⟩
set_option maxHeartbeats 2000000 in
theorem t_La_isBaked (d : Nat) {bc bs : Nat} {h : jx_H} {a : Nat} (A : jx_La h a) (x : Int32) : jx_Tr (d + 1) bc bs 4002 [.ref a, .int x] h (fun r h' => r = some (.int (b2 (bkd (h.2.1 a 4) x))) ∧ h' = h) := by
  refine jx_tr jM_La_isBaked rfl rfl (lv := [some (.ref a), some (.int x)]) rfl ?_
  refine je_aload0 (pc := 0) d4002_0 rfl ?_
  refine ju_geti (pc := 1) d4002_1 jF_4_30 rfl A.1 ?_
  refine je_iload1 (pc := 4) d4002_4 rfl ?_
  refine je_ishr (pc := 5) d4002_5 ?_
  refine je_iconst (pc := 6) (v := 1) d4002_6 rfl ?_
  refine je_iand (pc := 7) d4002_7 ?_
  refine je_ifeq (pc := 8) 15 d4002_8 (by decide) (fun c8 => ?_) (fun c8 => ?_)
  · refine je_iconst (pc := 15) (v := 0) d4002_15 rfl ?_
    refine je_zret (pc := 16) d4002_16 rfl (by decide) ?_
    exact ⟨lf_f (fun z => z c8), rfl⟩
  · refine je_iconst (pc := 11) (v := 1) d4002_11 rfl ?_
    refine je_goto (pc := 12) 16 d4002_12 (by decide) ?_
    refine je_zret (pc := 16) d4002_16 rfl (by decide) ?_
    exact ⟨lf_t c8, rfl⟩
theorem sL40 {h : jx_H} (H : jx_St h) : jx_La h 40 := ⟨sK40 H, ⟨sK41 H, sR40_0 H⟩, ⟨sK42 H, sR40_1 H⟩, ⟨sK43 H, sR40_2 H⟩, ⟨sK44 H, sR40_3 H⟩⟩
set_option maxHeartbeats 2000000 in
theorem t_Db_isSoft (d : Nat) {bc bs : Nat} {h : jx_H} {s : Nat} (H : jx_St h) (hr : h.2.2.2 26 0 = some s) (P : jx_Sp h s) (x : Int32) : jx_Tr (d + 2) bc bs 19 [.ref 1, .int x] h (fun r h' => r = some (.int (b2 ((¬ x < 0 ∧ x < h.2.1 s 0) ∧ ¬ bkd (h.2.1 40 4) x))) ∧ h' = h) := by
  refine jx_tr jM_Db_isSoft rfl rfl (lv := [some (.ref 1), some (.int x)]) rfl ?_
  refine je_aload0 (pc := 0) d19_0 rfl ?_
  refine je_iload1 (pc := 1) d19_1 rfl ?_
  refine ju_callv (pc := 2) (as := [_]) d19_2 jL_0_120 jM_Db_isMile rfl (by decide) (sK1 H) rfl (by exact Nat.le_of_ble_eq_true rfl) (t_Db_isMile (d + 0) H hr P x) (fun r2 h2 q2 => ?_)
  obtain ⟨rfl, e2⟩ := q2
  obtain rfl := e2.symm
  refine je_ifeq (pc := 5) 26 d19_5 (by decide) (fun c5 => ?_) (fun c5 => ?_)
  · refine je_iconst (pc := 26) (v := 0) d19_26 rfl ?_
    refine je_zret (pc := 27) d19_27 rfl (by decide) ?_
    exact ⟨lf_f (fun z => b2_0.mp c5 z.1), rfl⟩
  · refine je_aload0 (pc := 8) d19_8 rfl ?_
    refine ju_getr (pc := 9) (b := 26) d19_9 jF_0_41 rfl (sK1 H) (sR1_5 H) ?_
    refine ju_getr (pc := 12) (b := 40) d19_12 jF_0_124 rfl (sK26 H) (sR26_1 H) ?_
    refine je_iload1 (pc := 15) d19_15 rfl ?_
    refine ju_callv (pc := 16) (as := [_]) d19_16 jL_0_140 jM_La_isBaked rfl (by decide) (sK40 H) rfl (by exact Nat.le_of_ble_eq_true rfl) (t_La_isBaked (d + 0) (sL40 H) x) (fun r16 h16 q16 => ?_)
    obtain ⟨rfl, e16⟩ := q16
    obtain rfl := e16.symm
    refine je_ifne (pc := 19) 26 d19_19 (by decide) (fun c19 => ?_) (fun c19 => ?_)
    · refine je_iconst (pc := 26) (v := 0) d19_26 rfl ?_
      refine je_zret (pc := 27) d19_27 rfl (by decide) ?_
      exact ⟨lf_f (fun z => z.2 (Decidable.not_not.mp (fun y => c19 (b2_0.mpr y)))), rfl⟩
    · refine je_iconst (pc := 22) (v := 1) d19_22 rfl ?_
      refine je_goto (pc := 23) 27 d19_23 (by decide) ?_
      refine je_zret (pc := 27) d19_27 rfl (by decide) ?_
      exact ⟨lf_t ⟨Decidable.not_not.mp (fun y => c5 (b2_0.mpr y)), b2_0.mp c19⟩, rfl⟩
set_option maxHeartbeats 2000000 in
theorem t_Db_held (d : Nat) {bc bs : Nat} {h : jx_H} (v lo hi : Int32) : jx_Tr (d + 1) bc bs 14 [.int v, .int lo, .int hi] h (fun r h' => r = some (.int (mhold v lo hi)) ∧ h' = h) := by
  refine jx_tr jM_Db_held rfl rfl (lv := [some (.int v), some (.int lo), some (.int hi)]) rfl ?_
  refine je_iload0 (pc := 0) d14_0 rfl ?_
  refine je_iload1 (pc := 1) d14_1 rfl ?_
  refine ju_icge (pc := 2) 9 d14_2 (by decide) (fun c2 => ?_) (fun c2 => ?_)
  · refine je_iload0 (pc := 9) d14_9 rfl ?_
    refine je_iload2 (pc := 10) d14_10 rfl ?_
    refine ju_icle (pc := 11) 18 d14_11 (by decide) (fun c11 => ?_) (fun c11 => ?_)
    · refine je_iload0 (pc := 18) d14_18 rfl ?_
      refine je_iret (pc := 19) d14_19 rfl ?_
      exact ⟨by simp [mhold, *], rfl⟩
    · refine je_iload2 (pc := 14) d14_14 rfl ?_
      refine je_goto (pc := 15) 19 d14_15 (by decide) ?_
      refine je_iret (pc := 19) d14_19 rfl ?_
      exact ⟨by simp [mhold, *], rfl⟩
  · refine je_iload1 (pc := 5) d14_5 rfl ?_
    refine je_goto (pc := 6) 19 d14_6 (by decide) ?_
    refine je_iret (pc := 19) d14_19 rfl ?_
    exact ⟨by simp [mhold, *], rfl⟩
set_option maxHeartbeats 2000000 in
theorem t_Db_westIn (d : Nat) {bc bs : Nat} {h : jx_H} (v : Int32) : jx_Tr (d + 1) bc bs 15 [.int v] h (fun r h' => r = some (.int (v &&& 255)) ∧ h' = h) := by
  refine jx_tr jM_Db_westIn rfl rfl (lv := [some (.int v)]) rfl ?_
  refine je_iload0 (pc := 0) d15_0 rfl ?_
  refine je_sipush (pc := 1) (v := 255) d15_1 rfl ?_
  refine je_iand (pc := 4) d15_4 ?_
  refine je_iret (pc := 5) d15_5 rfl ?_
  exact ⟨rfl, rfl⟩
set_option maxHeartbeats 2000000 in
theorem t_Db_eastIn (d : Nat) {bc bs : Nat} {h : jx_H} (v : Int32) : jx_Tr (d + 1) bc bs 16 [.int v] h (fun r h' => r = some (.int ((v >>> ((8 : Int32) &&& 31)) &&& 255)) ∧ h' = h) := by
  refine jx_tr jM_Db_eastIn rfl rfl (lv := [some (.int v)]) rfl ?_
  refine je_iload0 (pc := 0) d16_0 rfl ?_
  refine je_bipush (pc := 1) (v := 8) d16_1 rfl ?_
  refine je_ishr (pc := 3) d16_3 ?_
  refine je_sipush (pc := 4) (v := 255) d16_4 rfl ?_
  refine je_iand (pc := 7) d16_7 ?_
  refine je_iret (pc := 8) d16_8 rfl ?_
  exact ⟨rfl, rfl⟩
set_option maxHeartbeats 2000000 in
theorem t_Db_changedSides (d : Nat) {bc bs : Nat} {h : jx_H} (v u : Int32) : jx_Tr (d + 2) bc bs 17 [.int v, .int u] h (fun r h' => r = some (.int (((v ^^^ u) &&& 255) ||| (((v ^^^ u) >>> ((8 : Int32) &&& 31)) &&& 255))) ∧ h' = h) := by
  refine jx_tr jM_Db_changedSides rfl rfl (lv := [some (.int v), some (.int u), none]) rfl ?_
  refine je_iload0 (pc := 0) d17_0 rfl ?_
  refine je_iload1 (pc := 1) d17_1 rfl ?_
  refine je_ixor (pc := 2) d17_2 ?_
  refine ju_istore2 (pc := 3) (lv' := [some _, some _, some _]) d17_3 rfl rfl ?_
  refine je_iload2 (pc := 4) d17_4 rfl ?_
  refine ju_calls (pc := 5) (as := [_]) d17_5 jL_0_329 jM_Db_westIn rfl rfl (by exact Nat.le_of_ble_eq_true rfl) (t_Db_westIn (d + 0) _) (fun r5 h5 q5 => ?_)
  obtain ⟨rfl, e5⟩ := q5
  obtain rfl := e5.symm
  refine je_iload2 (pc := 8) d17_8 rfl ?_
  refine ju_calls (pc := 9) (as := [_]) d17_9 jL_0_230 jM_Db_eastIn rfl rfl (by exact Nat.le_of_ble_eq_true rfl) (t_Db_eastIn (d + 0) _) (fun r9 h9 q9 => ?_)
  obtain ⟨rfl, e9⟩ := q9
  obtain rfl := e9.symm
  refine je_ior (pc := 12) d17_12 ?_
  refine je_iret (pc := 13) d17_13 rfl ?_
  exact ⟨rfl, rfl⟩
set_option maxHeartbeats 2000000 in
theorem t_St_warmthOf (d : Nat) {bc bs : Nat} {h : jx_H} {s : Nat} (P : jx_Sp h s) (x : Int32) : jx_Tr (d + 1) bc bs 3002 [.ref s, .int x] h (fun r h' => r = some (.int (if ¬ x < 0 ∧ x < 100 then h.2.1 (s + 1) x.toNatClampNeg else 0)) ∧ h' = h) := by
  refine jx_tr jM_St_warmthOf rfl rfl (lv := [some (.ref s), some (.int x)]) rfl ?_
  refine je_iload1 (pc := 0) d3002_0 rfl ?_
  refine je_iflt (pc := 1) 10 d3002_1 (by decide) (fun c1 => ?_) (fun c1 => ?_)
  · refine je_iconst (pc := 10) (v := 0) d3002_10 rfl ?_
    refine je_goto (pc := 11) 20 d3002_11 (by decide) ?_
    refine je_iret (pc := 20) d3002_20 rfl ?_
    exact ⟨by simp [*], rfl⟩
  · refine je_iload1 (pc := 4) d3002_4 rfl ?_
    refine je_bipush (pc := 5) (v := 100) d3002_5 rfl ?_
    refine je_iclt (pc := 7) 14 d3002_7 (by decide) (fun c7 => ?_) (fun c7 => ?_)
    · refine je_aload0 (pc := 14) d3002_14 rfl ?_
      refine ju_getr (pc := 15) (b := (s + 1)) d3002_15 jF_3_9 rfl P.1.1 P.1.2.1.2 ?_
      refine je_iload1 (pc := 18) d3002_18 rfl ?_
      refine ju_iald (pc := 19) d3002_19 P.1.2.1.1 (by obtain ⟨j, hj, rfl⟩ := nI_of (by assumption); exact vp_in_nI ((nI_ltI (b := 100) hj (by decide)).mp (by assumption)) (by decide)) rfl ?_
      refine je_iret (pc := 20) d3002_20 rfl ?_
      exact ⟨by simp [*], rfl⟩
    · refine je_iconst (pc := 10) (v := 0) d3002_10 rfl ?_
      refine je_goto (pc := 11) 20 d3002_11 (by decide) ?_
      refine je_iret (pc := 20) d3002_20 rfl ?_
      exact ⟨by simp [*], rfl⟩
set_option maxHeartbeats 2000000 in
theorem t_St_sideOf (d : Nat) {bc bs : Nat} {h : jx_H} {s a v m : Nat} (P : jx_Sp h s) (A : jx_La h a) (hv : v < 8) (hm : m < 10) (e : h.2.1 (s + 2) v = nI m) : jx_Tr (d + 1) bc bs 3001 [.ref s, .ref a, .int (nI v)] h (fun r h' => r = some (.int (sdV (h.2.1 (a + 1) m) (h.2.1 (s + 3) v))) ∧ h' = h) := by
  refine jx_tr jM_St_sideOf rfl rfl (lv := [some (.ref s), some (.ref a), some (.int (nI v)), none, none]) rfl ?_
  have okv : jx_ok (nI v) 8 := vp_in_nI hv (by decide)
  have ev : (nI v).toNatClampNeg = v := nI_clamp (by omega)
  have em : (nI m).toNatClampNeg = m := nI_clamp (by omega)
  refine je_aload1 (pc := 0) d3001_0 rfl ?_
  refine ju_getr (pc := 1) (b := (a + 1)) d3001_1 jF_3_40 rfl A.1 A.2.1.2 ?_
  refine je_aload0 (pc := 4) d3001_4 rfl ?_
  refine ju_getr (pc := 5) (b := (s + 2)) d3001_5 jF_3_15 rfl P.1.1 P.1.2.2.1.2 ?_
  refine je_iload2 (pc := 8) d3001_8 rfl ?_
  refine ju_iald (pc := 9) (jn := v) d3001_9 P.1.2.2.1.1 (by first | assumption | exact jx_ok_dec (by decide)) ev ?_
  refine ju_iald (pc := 10) (jn := m) d3001_10 A.2.1.1 (by rw [e]; exact vp_in_nI hm (by decide)) (by rw [e]; exact em) ?_
  refine ju_istore3 (pc := 11) (lv' := [some _, some _, some _, some _, none]) d3001_11 rfl rfl ?_
  refine je_aload0 (pc := 12) d3001_12 rfl ?_
  refine ju_getr (pc := 13) (b := (s + 3)) d3001_13 jF_3_18 rfl P.1.1 P.1.2.2.2.1.2 ?_
  refine je_iload2 (pc := 16) d3001_16 rfl ?_
  refine ju_iald (pc := 17) (jn := v) d3001_17 P.1.2.2.2.1.1 (by first | assumption | exact jx_ok_dec (by decide)) ev ?_
  refine ju_istore (pc := 18) (lv' := [some _, some _, some _, some _, some _]) d3001_18 rfl rfl ?_
  refine je_iload (pc := 20) d3001_20 rfl ?_
  refine je_iload3 (pc := 22) d3001_22 rfl ?_
  refine ju_icge (pc := 23) 30 d3001_23 (by decide) (fun c23 => ?_) (fun c23 => ?_)
  · refine je_iload (pc := 30) d3001_30 rfl ?_
    refine je_iload3 (pc := 32) d3001_32 rfl ?_
    refine ju_icle (pc := 33) 40 d3001_33 (by decide) (fun c33 => ?_) (fun c33 => ?_)
    · refine je_iconst (pc := 40) (v := 2) d3001_40 rfl ?_
      refine je_iret (pc := 41) d3001_41 rfl ?_
      exact ⟨by simp [sdV, *], rfl⟩
    · refine je_iconst (pc := 36) (v := 1) d3001_36 rfl ?_
      refine je_goto (pc := 37) 41 d3001_37 (by decide) ?_
      refine je_iret (pc := 41) d3001_41 rfl ?_
      exact ⟨by simp [sdV, *], rfl⟩
  · refine je_iconst (pc := 26) (v := 0) d3001_26 rfl ?_
    refine je_goto (pc := 27) 41 d3001_27 (by decide) ?_
    refine je_iret (pc := 41) d3001_41 rfl ?_
    exact ⟨by simp [sdV, *], rfl⟩
