/-! force, log, part -/
theorem rW.ch {A : Nat → Prop} {h h' : jx_H} {w : Nat} {X X' : MW} (r : rW h w X) (q : fC A h h') (hA : ∀ b, A b → ¬ sRow b) (eS : X'.1 = X.1) (l : rL h'.2.1 (w + 14) X'.2.1) (f : h'.2.1 w 2 = X'.2.2.1.1 ∧ h'.2.1 w 3 = X'.2.2.1.2)
    (g : h'.2.1 w 4 = nI X'.2.2.2.1.1 ∧ ∀ k, k < X'.2.2.2.1.1 → h'.2.1 (w + 19) k = X'.2.2.2.1.2.1 k ∧ h'.2.1 (w + 20) k = X'.2.2.2.1.2.2.1 k ∧ h'.2.1 (w + 21) k = X'.2.2.2.1.2.2.2 k)
    (p : ∃ o, o < 20 ∧ h'.2.1 w 9 = nI o ∧ h'.2.1 w 10 = nI X'.2.2.2.2.1 ∧ ∀ i, i < X'.2.2.2.2.1 → cP (fun j => h'.2.1 (w + 22) ((o + i) % 20 * 40 + j)) (X'.2.2.2.2.2 i)) : rW h' w X' := by
  obtain ⟨⟨s, r1, r2, r3, r4⟩, -⟩ := r
  refine ⟨⟨s, by rw [q.1.2]; exact r1, r2, q.Sp r3, ?_⟩, l, f, g, p⟩
  rw [eS]
  exact r4.of (fun b h1 h2 => q.2 b (fun z => hA b z (sRow_of r2 h1 h2)))
theorem mW.ch {g g' : Nat → Nat → Int32} {X X' : MW} (m : mW g X) (eS : X'.1 = X.1) (e : ∀ a, (258 ≤ a ∧ a ≤ 261) ∨ (263 ≤ a ∧ a ≤ 264) ∨ a = 268 ∨ a = 269 → g' a = g a) (e4 : ∀ j, j < 4 → g' 254 j = g 254 j) (l : mLa g' X'.2.1)
    (f : g' 254 8 = X'.2.2.1.1 ∧ g' 254 7 = X'.2.2.1.2) (lg : g' 254 6 = nI X'.2.2.2.1.1 ∧ ∀ k, k < X'.2.2.2.1.1 → g' 265 k = X'.2.2.2.1.2.1 k ∧ g' 266 k = X'.2.2.2.1.2.2.1 k ∧ g' 267 k = X'.2.2.2.1.2.2.2 k)
    (p : g' 293 0 = nI X'.2.2.2.2.1 ∧ ∀ i, i < X'.2.2.2.2.1 → mP (fun j => g' 292 (40 * i + j)) (X'.2.2.2.2.2 i)) : mW g' X' := by
  obtain ⟨⟨m1, m2, m3, m4, m5, m6⟩, -⟩ := m
  refine ⟨?_, l, f, lg, p⟩
  rw [eS]
  unfold mSt
  rw [e 258 (by omega), e 259 (by omega), e 260 (by omega), e 261 (by omega), e 263 (by omega), e 264 (by omega), e 268 (by omega), e 269 (by omega), e4 0 (by omega), e4 1 (by omega), e4 2 (by omega), e4 3 (by omega)]
  exact ⟨m1, m2, m3, m4, m5, m6⟩
theorem gN_ne (h : jx_H) {a : Nat} (ha : a ≠ 293) : gN h a = h.2.1 a := by funext j; unfold gN; rw [if_neg ha]
theorem gN_293 (h : jx_H) (j : Nat) : gN h 293 j = h.2.1 253 51 := by unfold gN; rw [if_pos rfl]
theorem r25 {h : jx_H} (H : jx_St h) : ∀ {f : Nat}, f < 6 → jx_rv (h.2.2.2 25 (nI f).toNatClampNeg) = .ref (125 + 6 * f)
  | 0, _ => by rw [nI_clamp (by omega), sR25_0 H]; rfl
  | 1, _ => by rw [nI_clamp (by omega), sR25_1 H]; rfl
  | 2, _ => by rw [nI_clamp (by omega), sR25_2 H]; rfl
  | 3, _ => by rw [nI_clamp (by omega), sR25_3 H]; rfl
  | 4, _ => by rw [nI_clamp (by omega), sR25_4 H]; rfl
  | 5, _ => by rw [nI_clamp (by omega), sR25_5 H]; rfl
  | n + 6, h => absurd h (by omega)
section JN
variable {d bc bs i pc : Nat} {lv : List (Option Value)} {st : List Value} {h : jx_H} {Q : Option Value → jx_H → Prop}
theorem je_aload2N (hd : decode (jm_b i) pc = .ok (.aload_n 2, 1)) (hx : lv[2]? = some (some .null)) (k : jx_Ev d bc bs i (pc + 1) lv (.null :: st) h Q) : jx_Ev d bc bs i pc lv (st) h Q := je_gen (fun F _ hl _ k => lv_aload_nN F.1.1 F.1.2.1 hd rfl (hl.at hx) k) k
end JN
set_option maxHeartbeats 2000000 in
theorem t_Lw_take (d : Nat) {bc bs : Nat} {h : jx_H} {s a : Nat} (H : jx_St h) : jx_Tr (d + 1) bc bs 8001 [.ref 51, .ref s, .ref a] h (fun r h' => r = none ∧ h' = jx_wR (jx_wR h 51 0 (some s)) 51 1 (some a)) := by
  refine jx_tr jM_Lw_take rfl rfl (lv := [some (.ref 51), some (.ref s), some (.ref a)]) rfl ?_
  refine je_aload0 (pc := 0) d8001_0 rfl ?_
  refine je_aload1 (pc := 1) d8001_1 rfl ?_
  refine ju_putr (pc := 2) d8001_2 jF_8_12 rfl rfl (sK51 H) ?_
  refine je_aload0 (pc := 5) d8001_5 rfl ?_
  refine je_aload2 (pc := 6) d8001_6 rfl ?_
  refine ju_putr (pc := 7) d8001_7 jF_8_28 rfl rfl (sK51 (H.wR rfl)) ?_
  refine je_ret (pc := 10) d8001_10 rfl ?_
  exact ⟨rfl, rfl⟩
set_option maxHeartbeats 2000000 in
theorem t_Lw_take_n (d : Nat) {bc bs : Nat} {h : jx_H} {s : Nat} (H : jx_St h) : jx_Tr (d + 1) bc bs 8001 [.ref 51, .ref s, .null] h (fun r h' => r = none ∧ h' = jx_wR (jx_wR h 51 0 (some s)) 51 1 none) := by
  refine jx_tr jM_Lw_take rfl rfl (lv := [some (.ref 51), some (.ref s), some (.null)]) rfl ?_
  refine je_aload0 (pc := 0) d8001_0 rfl ?_
  refine je_aload1 (pc := 1) d8001_1 rfl ?_
  refine ju_putr (pc := 2) d8001_2 jF_8_12 rfl rfl (sK51 H) ?_
  refine je_aload0 (pc := 5) d8001_5 rfl ?_
  refine je_aload2N (pc := 6) d8001_6 rfl ?_
  refine ju_putn (pc := 7) d8001_7 jF_8_28 rfl rfl (sK51 (H.wR rfl)) ?_
  refine je_ret (pc := 10) d8001_10 rfl ?_
  exact ⟨rfl, rfl⟩
set_option maxHeartbeats 2000000 in
theorem t_Db_renewLaw (d : Nat) {bc bs : Nat} {h : jx_H} {s : Nat} (H : jx_St h) (hr : h.2.2.2 26 0 = some s) (P : jx_Sp h s) {f nr : Nat} (hf : h.2.1 26 2 = nI f) (hn : h.2.1 1 4 = nI nr) (h1 : f < nr) (h2 : nr ≤ 6) : jx_Tr (d + 2) bc bs 4 [.ref 1] h (fun r h' => r = none ∧ h' = jx_wR (jx_wR h 51 0 (some s)) 51 1 (some (125 + 6 * f))) := by
  refine jx_tr jM_Db_renewLaw rfl rfl (lv := [some (.ref 1), none]) rfl ?_
  refine je_aload0 (pc := 0) d4_0 rfl ?_
  refine ju_getr (pc := 1) (b := 26) d4_1 jF_0_41 rfl (sK1 H) (sR1_5 H) ?_
  refine ju_geti (pc := 4) d4_4 jF_0_117 rfl (sK26 H) ?_
  refine je_iflt (pc := 7) 28 d4_7 (by decide) (fun c7 => absurd c7 (by rw [hf]; exact nI_pos (by omega))) (fun c7 => ?_)
  refine je_aload0 (pc := 10) d4_10 rfl ?_
  refine ju_getr (pc := 11) (b := 26) d4_11 jF_0_41 rfl (sK1 H) (sR1_5 H) ?_
  refine ju_geti (pc := 14) d4_14 jF_0_117 rfl (sK26 H) ?_
  refine je_aload0 (pc := 17) d4_17 rfl ?_
  refine ju_geti (pc := 18) d4_18 jF_0_111 rfl (sK1 H) ?_
  refine ju_icge (pc := 21) 28 d4_21 (by decide) (fun c21 => absurd c21 (by rw [hf, hn]; exact fun z => z (nI_lt h1 (by omega)))) (fun c21 => ?_)
  refine je_iconst (pc := 24) (v := 1) d4_24 rfl ?_
  refine je_goto (pc := 25) 29 d4_25 (by decide) ?_
  refine ju_istore1 (pc := 29) (lv' := [some _, some _]) d4_29 rfl rfl ?_
  refine je_aload0 (pc := 30) d4_30 rfl ?_
  refine ju_getr (pc := 31) (b := 51) d4_31 jF_0_56 rfl (sK1 H) (sR1_8 H) ?_
  refine je_aload0 (pc := 34) d4_34 rfl ?_
  refine ju_getr (pc := 35) (b := 26) d4_35 jF_0_41 rfl (sK1 H) (sR1_5 H) ?_
  refine ju_getr (pc := 38) (b := s) d4_38 jF_0_143 rfl (sK26 H) hr ?_
  refine je_iload1 (pc := 41) d4_41 rfl ?_
  refine je_ifeq (pc := 42) 60 d4_42 (by decide) (fun c42 => absurd c42 (by decide)) (fun c42 => ?_)
  refine je_aload0 (pc := 45) d4_45 rfl ?_
  refine ju_getr (pc := 46) (b := 25) d4_46 jF_0_34 rfl (sK1 H) (sR1_3 H) ?_
  refine je_aload0 (pc := 49) d4_49 rfl ?_
  refine ju_getr (pc := 50) (b := 26) d4_50 jF_0_41 rfl (sK1 H) (sR1_5 H) ?_
  refine ju_geti (pc := 53) d4_53 jF_0_117 rfl (sK26 H) ?_
  refine je_aald (pc := 56) d4_56 (by decide) (sK25 H) (by rw [hf]; exact vp_in_nI (by omega) (by decide)) (v := .ref (125 + 6 * f)) (by rw [hf]; exact r25 H (by omega)) ?_
  refine je_goto (pc := 57) 61 d4_57 (by decide) ?_
  refine ju_callv (pc := 61) (as := [_, _]) d4_61 jL_0_325 jM_Lw_take rfl (by decide) (sK51 H) rfl (by exact Nat.le_of_ble_eq_true rfl) (t_Lw_take (d + 0) H) (fun r61 h61 q61 => ?_)
  obtain ⟨rfl, e61⟩ := q61
  obtain rfl := e61.symm
  refine je_ret (pc := 64) d4_64 rfl ?_
  exact ⟨rfl, rfl⟩
set_option maxHeartbeats 2000000 in
theorem t_Db_renewLaw_n (d : Nat) {bc bs : Nat} {h : jx_H} {s : Nat} (H : jx_St h) (hr : h.2.2.2 26 0 = some s) (P : jx_Sp h s) (hf : h.2.1 26 2 = -1) : jx_Tr (d + 2) bc bs 4 [.ref 1] h (fun r h' => r = none ∧ h' = jx_wR (jx_wR h 51 0 (some s)) 51 1 none) := by
  refine jx_tr jM_Db_renewLaw rfl rfl (lv := [some (.ref 1), none]) rfl ?_
  refine je_aload0 (pc := 0) d4_0 rfl ?_
  refine ju_getr (pc := 1) (b := 26) d4_1 jF_0_41 rfl (sK1 H) (sR1_5 H) ?_
  refine ju_geti (pc := 4) d4_4 jF_0_117 rfl (sK26 H) ?_
  refine je_iflt (pc := 7) 28 d4_7 (by decide) (fun c7 => ?_) (fun c7 => absurd c7 (by rw [hf]; decide))
  refine je_iconst (pc := 28) (v := 0) d4_28 rfl ?_
  refine ju_istore1 (pc := 29) (lv' := [some _, some _]) d4_29 rfl rfl ?_
  refine je_aload0 (pc := 30) d4_30 rfl ?_
  refine ju_getr (pc := 31) (b := 51) d4_31 jF_0_56 rfl (sK1 H) (sR1_8 H) ?_
  refine je_aload0 (pc := 34) d4_34 rfl ?_
  refine ju_getr (pc := 35) (b := 26) d4_35 jF_0_41 rfl (sK1 H) (sR1_5 H) ?_
  refine ju_getr (pc := 38) (b := s) d4_38 jF_0_143 rfl (sK26 H) hr ?_
  refine je_iload1 (pc := 41) d4_41 rfl ?_
  refine je_ifeq (pc := 42) 60 d4_42 (by decide) (fun c42 => ?_) (fun c42 => absurd c42 (by decide))
  refine je_null (pc := 60) d4_60 ?_
  refine ju_callv (pc := 61) (as := [_, _]) d4_61 jL_0_325 jM_Lw_take rfl (by decide) (sK51 H) rfl (by exact Nat.le_of_ble_eq_true rfl) (t_Lw_take_n (d + 0) H) (fun r61 h61 q61 => ?_)
  obtain ⟨rfl, e61⟩ := q61
  obtain rfl := e61.symm
  refine je_ret (pc := 64) d4_64 rfl ?_
  exact ⟨rfl, rfl⟩
set_option maxHeartbeats 2000000 in
theorem t_Db_force (d : Nat) {bc bs : Nat} {h : jx_H} (H : jx_St h) (x : Int32) (g : jx_H) (G : ¬ x < -1 ∧ x < h.2.1 1 4) (t : ∀ d bc bs, jx_Tr (d + 2) bc bs 4 [.ref 1] (jx_wI h 26 2 x) (fun r h' => r = none ∧ h' = g)) : jx_Tr (d + 3) bc bs 6 [.ref 1, .int x] h (fun r h' => r = some (.int (h.2.1 26 2)) ∧ h' = g) := by
  refine jx_tr jM_Db_force rfl rfl (lv := [some (.ref 1), some (.int x), none]) rfl ?_
  refine je_iload1 (pc := 0) d6_0 rfl ?_
  refine je_iconst (pc := 1) (v := -1) d6_1 rfl ?_
  refine je_iclt (pc := 2) 13 d6_2 (by decide) (fun c2 => absurd c2 G.1) (fun c2 => ?_)
  refine je_iload1 (pc := 5) d6_5 rfl ?_
  refine je_aload0 (pc := 6) d6_6 rfl ?_
  refine ju_geti (pc := 7) d6_7 jF_0_111 rfl (sK1 H) ?_
  refine je_iclt (pc := 10) 16 d6_10 (by decide) (fun c10 => ?_) (fun c10 => absurd c10 (fun z => z G.2))
  refine je_aload0 (pc := 16) d6_16 rfl ?_
  refine ju_getr (pc := 17) (b := 26) d6_17 jF_0_41 rfl (sK1 H) (sR1_5 H) ?_
  refine ju_geti (pc := 20) d6_20 jF_0_117 rfl (sK26 H) ?_
  refine ju_istore2 (pc := 23) (lv' := [some _, some _, some _]) d6_23 rfl rfl ?_
  refine je_aload0 (pc := 24) d6_24 rfl ?_
  refine ju_getr (pc := 25) (b := 26) d6_25 jF_0_41 rfl (sK1 H) (sR1_5 H) ?_
  refine je_iload1 (pc := 28) d6_28 rfl ?_
  refine ju_puti (pc := 29) d6_29 jF_0_117 rfl (sK26 H) ?_
  refine je_aload0 (pc := 32) d6_32 rfl ?_
  refine ju_callv (pc := 33) (as := []) d6_33 jL_0_103 jM_Db_renewLaw rfl (by decide) (sK1 H.wI) rfl (by exact Nat.le_of_ble_eq_true rfl) (t d _ _) (fun r33 h33 q33 => ?_)
  obtain ⟨rfl, e33⟩ := q33
  obtain rfl := e33.symm
  refine je_iload2 (pc := 36) d6_36 rfl ?_
  refine je_iret (pc := 37) d6_37 rfl ?_
  exact ⟨rfl, rfl⟩
set_option maxHeartbeats 2000000 in
theorem t_Db_force_n (d : Nat) {bc bs : Nat} {h : jx_H} (H : jx_St h) (x : Int32) (G : ¬ (¬ x < -1 ∧ x < h.2.1 1 4)) : jx_Tr (d + 3) bc bs 6 [.ref 1, .int x] h (fun r h' => r = some (.int (-2)) ∧ h' = h) := by
  refine jx_tr jM_Db_force rfl rfl (lv := [some (.ref 1), some (.int x), none]) rfl ?_
  refine je_iload1 (pc := 0) d6_0 rfl ?_
  refine je_iconst (pc := 1) (v := -1) d6_1 rfl ?_
  refine je_iclt (pc := 2) 13 d6_2 (by decide) (fun c2 => ?_) (fun c2 => ?_)
  · refine je_bipush (pc := 13) (v := -2) d6_13 rfl ?_
    refine je_iret (pc := 15) d6_15 rfl ?_
    exact ⟨rfl, rfl⟩
  · refine je_iload1 (pc := 5) d6_5 rfl ?_
    refine je_aload0 (pc := 6) d6_6 rfl ?_
    refine ju_geti (pc := 7) d6_7 jF_0_111 rfl (sK1 H) ?_
    refine je_iclt (pc := 10) 16 d6_10 (by decide) (fun c10 => ?_) (fun c10 => ?_)
    · exact absurd ⟨c2, c10⟩ G
    · refine je_bipush (pc := 13) (v := -2) d6_13 rfl ?_
      refine je_iret (pc := 15) d6_15 rfl ?_
      exact ⟨rfl, rfl⟩
theorem in_M1 (x : Int32) {n : Nat} (hn : n < 1000) : b2 ((-1 : Int64) ≤ x.toInt64 ∧ x.toInt64 ≤ (nI n - 1).toInt64) = b2 (¬ x < -1 ∧ x < nI n) := by
  refine b2_c ?_
  rw [show (-1 : Int64) = (-1 : Int32).toInt64 from rfl, fa_wide_le, fa_wide_le, fa_le, fa_le, fa_lt, fa_lt, show (1 : Int32) = nI 1 from rfl, pk_sub_toInt (by omega) (by omega), nI_toInt (by omega)]
  omega
set_option maxHeartbeats 2000000 in
theorem t_Mo_force (d : Nat) {bc bs : Nat} {h : jx_H} {nr : Nat} (H : jx_St h) (x : Int32) (hn : h.2.1 253 31 = nI nr) (hn2 : nr < 1000) : jx_Tr (d + 2) bc bs 12040 [.ref 253, .int x] h (fun r h' => r = some (.int (if ¬ x < -1 ∧ x < nI nr then h.2.1 254 8 else -2)) ∧ h' = if ¬ x < -1 ∧ x < nI nr then jx_wI h 254 8 x else h) := by
  refine jx_tr jM_Mo_force rfl rfl (lv := [some (.ref 253), some (.int x), none]) rfl ?_
  refine je_iload1 (pc := 0) d12040_0 rfl ?_
  refine je_i2l (pc := 1) d12040_1 ?_
  refine je_ldc2 (pc := 2) d12040_2 jK_12_380 ?_
  refine je_aload0 (pc := 5) d12040_5 rfl ?_
  refine ju_geti (pc := 6) d12040_6 jF_12_374 rfl (sK253 H) ?_
  refine je_iconst (pc := 9) (v := 1) d12040_9 rfl ?_
  refine je_isub (pc := 10) d12040_10 ?_
  refine je_i2l (pc := 11) d12040_11 ?_
  refine ju_calls (pc := 12) (as := [_, _, _]) d12040_12 jL_12_170 jM_Mo_in rfl rfl (by exact Nat.le_of_ble_eq_true rfl) (t_Mo_in (d + 0) _ _ _) (fun r12 h12 q12 => ?_)
  obtain ⟨rfl, e12⟩ := q12
  obtain rfl := e12.symm
  rw [hn, in_M1 x hn2]
  refine je_ifne (pc := 15) 21 d12040_15 (by decide) (fun c15 => ?_) (fun c15 => ?_)
  · refine je_aload0 (pc := 21) d12040_21 rfl ?_
    refine ju_getr (pc := 22) (b := 254) d12040_22 jF_12_9 rfl (sK253 H) (sR253_1 H) ?_
    refine je_bipush (pc := 25) (v := 8) d12040_25 rfl ?_
    refine ju_iald (pc := 27) (jn := 8) d12040_27 (sK254 H) (by first | assumption | exact jx_ok_dec (by decide)) (by decide) ?_
    refine ju_istore2 (pc := 28) (lv' := [some _, some _, some _]) d12040_28 rfl rfl ?_
    refine je_aload0 (pc := 29) d12040_29 rfl ?_
    refine ju_getr (pc := 30) (b := 254) d12040_30 jF_12_9 rfl (sK253 H) (sR253_1 H) ?_
    refine je_bipush (pc := 33) (v := 8) d12040_33 rfl ?_
    refine je_iload1 (pc := 35) d12040_35 rfl ?_
    refine ju_iast (pc := 36) (jn := 8) d12040_36 (sK254 H) (by first | assumption | exact jx_ok_dec (by decide)) (by decide) ?_
    refine je_iload2 (pc := 37) d12040_37 rfl ?_
    refine je_iret (pc := 38) d12040_38 rfl ?_
    rw [if_pos (b2_n c15), if_pos (b2_n c15)]
    exact ⟨rfl, rfl⟩
  · refine je_bipush (pc := 18) (v := -2) d12040_18 rfl ?_
    refine je_iret (pc := 20) d12040_20 rfl ?_
    rw [if_neg (b2_0.mp c15), if_neg (b2_0.mp c15)]
    exact ⟨rfl, rfl⟩
theorem n51 {a : Nat} (h : a = 51 ∨ a = 107) : ¬ sRow a ∧ a < 125 := by unfold sRow; omega
theorem op_force (x : Int32) : jo Inv 6 12040 [.int x] := jo_st (fun n h t nr rs X Y hn q => by
  obtain ⟨s, r1, r2, r3, r4, r5⟩ := q.cl
  obtain ⟨Q1, Q2, Q3, ⟨u1, u2, u3, -⟩, Q5, Q6, Q7, Q8, Q9⟩ := id q
  obtain ⟨-, -, ⟨f1, f2⟩, g1, p1⟩ := id Q5
  by_cases G : ¬ x < -1 ∧ x < nI nr
  · have GC : ¬ x < -1 ∧ x < h.2.1 1 4 := by rw [u2]; exact G
    have hx : x = -1 ∨ ∃ f, f < nr ∧ x = nI f := by
      by_cases c : x < 0
      · refine Or.inl (Int32.toInt_inj.mp ?_)
        have c1 := G.1
        rw [fa_lt] at c c1
        have e1 : (0 : Int32).toInt = 0 := rfl
        have e2 : (-1 : Int32).toInt = -1 := rfl
        omega
      · obtain ⟨j, hj, rfl⟩ := nI_of c
        exact Or.inr ⟨j, (nI_ltI hj (by omega)).mp G.2, rfl⟩
    have key : ∀ r0 : Option Nat, (x = -1 → r0 = none) → (∀ f : Nat, x = nI f → f < 6 → r0 = some (125 + 6 * f)) → (∀ d bc bs, jx_Tr (d + 2) bc bs 4 [.ref 1] (jx_wI h 26 2 x) (fun r h' => r = none ∧ h' = jx_wR (jx_wR (jx_wI h 26 2 x) 51 0 (some s)) 51 1 r0)) → ∃ (v : Int32) (X' : MW) (h0 : jx_H), InvB n h0 t nr rs Y ∧ (h0.1 = h.1 ∧ h0.2.1 = h.2.1) ∧ wfW (n + 1) nr X' ∧ lawOK h0 X' ∧
        jx_Tr 199 13 206 6 [.ref 1, .int x] h (fun r h1 => r = some (.int v) ∧ fC cRow h0 h1 ∧ rW h1 26 X') ∧
        ∀ h1, jx_St h1 → (∀ b, 253 ≤ b → b ≤ 303 → h1.2.1 b = h.2.1 b) → mW (gN h1) X → jx_Tr 199 0 0 12040 [.ref 253, .int x] h1 (fun r h2 => r = some (.int v) ∧ fM h1 h2 ∧ mW (gN h2) X') := by
      intro r0 k1 k2 k3
      refine ⟨X.2.2.1.1, (X.1, X.2.1, (x, X.2.2.1.2), X.2.2.2), jx_wR (jx_wR h 51 0 (some s)) 51 1 r0, (q.B.wR rfl (n51 (Or.inl rfl))).wR rfl (n51 (Or.inl rfl)), ⟨rfl, rfl⟩, ?_, ?_, ?_, ?_⟩
      · obtain ⟨w1, w2, w3, w4, w5, w6⟩ := Q7.up (Nat.le_succ n) (Nat.le_refl nr)
        exact ⟨w1, w2, hx, w4, w5, w6⟩
      · intro _
        refine ⟨?_, fun e => ?_, fun f e hf => ?_⟩
        · rw [wR_at, jx_up_ne _ _ (by decide), wR_at, jx_up_self, wR_ne _ _ _ (show 26 ≠ 51 by decide), wR_ne _ _ _ (show 26 ≠ 51 by decide)]; exact r1.symm
        · rw [wR_at, jx_up_self]; exact k1 e
        · rw [wR_at, jx_up_self]; exact k2 f e hf
      · refine ((t_Db_force 196 q.1 x _ GC k3).mono (fun r h1 e => ?_))
        obtain ⟨rfl, rfl⟩ := e
        refine ⟨by rw [f1], ?_, ?_⟩
        · exact (fC.rf (A := cRow) (h := jx_wR (jx_wR h 51 0 (some s)) 51 1 r0)).wI (a := 26) (k := 2) (v := x) (by unfold cRow kRow sRow; omega)
        · have z : rW (jx_wI h 26 2 x) 26 (X.1, X.2.1, (x, X.2.2.1.2), X.2.2.2) := by
            refine Q5.ch (A := fun b => b = 26) (fC.rf.wI rfl) (fun b e => by rw [e]; exact nsR26) rfl ?_ ?_ ?_ ?_
            · exact r5.of (fun b h1 h2 => wI_ne _ _ _ (by omega))
            · rw [wI_at, jx_up_self, jx_up_ne _ _ (by decide)]; exact ⟨rfl, f2⟩
            · rw [wI_at, jx_up_ne _ _ (by decide), wI_ne _ _ _ (show 26 + 19 ≠ 26 by decide), wI_ne _ _ _ (show 26 + 20 ≠ 26 by decide), wI_ne _ _ _ (show 26 + 21 ≠ 26 by decide)]; exact g1
            · rw [wI_at, jx_up_ne _ _ (by decide), jx_up_ne _ _ (by decide), wI_ne _ _ _ (show 26 + 22 ≠ 26 by decide)]; exact p1
          exact (z.wR ⟨(n51 (Or.inl rfl)).1, by decide⟩).wR ⟨(n51 (Or.inl rfl)).1, by decide⟩
      · intro h1 S1 g1 m1
        refine ((t_Mo_force 197 S1 x (nr := nr) (by rw [g1 253 (by omega) (by omega)]; exact u3) (by omega)).mono (fun r h2 e => ?_))
        obtain ⟨rfl, rfl⟩ := e
        rw [if_pos G, if_pos G]
        refine ⟨?_, fM.rf.wI (by unfold mRow; omega), ?_⟩
        · have := m1.2.2.1.1
          rw [gN_ne _ (by decide)] at this
          rw [this]
        · refine m1.ch rfl (fun a ha => ?_) (fun j hj => ?_) ?_ ?_ ?_ ?_
          · rw [gN_ne _ (by omega), gN_ne _ (by omega), wI_ne _ _ _ (by omega)]
          · rw [gN_ne _ (by omega), gN_ne _ (by omega), wI_at, jx_up_ne _ _ (by omega)]
          · obtain ⟨-, ⟨a1, a2, a3, a4⟩, -⟩ := m1
            rw [gN_ne _ (by decide)] at a3 a4
            unfold mLa
            rw [gN_ne _ (by decide), gN_ne _ (by decide), gN_ne _ (by decide), gN_ne _ (by decide), gN_ne _ (by decide), wI_ne _ _ _ (by decide), wI_ne _ _ _ (by decide), wI_ne _ _ _ (by decide), wI_ne _ _ _ (by decide), wI_at, jx_up_ne _ _ (by decide), jx_up_ne _ _ (by decide)]
            exact ⟨a1, a2, a3, a4⟩
          · have := m1.2.2.1.2
            rw [gN_ne _ (by decide)] at this ⊢
            rw [wI_at, jx_up_self, jx_up_ne _ _ (by decide)]
            exact ⟨rfl, this⟩
          · have := m1.2.2.2.1
            rw [gN_ne _ (by decide), gN_ne _ (by decide), gN_ne _ (by decide), gN_ne _ (by decide)] at this ⊢
            rw [wI_at, jx_up_ne _ _ (by decide), wI_ne _ _ _ (by decide), wI_ne _ _ _ (by decide), wI_ne _ _ _ (by decide)]
            exact this
          · have := m1.2.2.2.2
            rw [gN_293, gN_ne _ (by decide)] at this ⊢
            rw [wI_ne _ _ _ (by decide), wI_ne _ _ _ (by decide)]
            exact this
    have S0 : jx_St (jx_wI h 26 2 x) := q.1.wI
    rcases hx with rfl | ⟨f, hf, rfl⟩
    · refine key none (fun _ => rfl) (fun f e hf => ?_) (fun d bc bs => t_Db_renewLaw_n d S0 r1 r3.wI (by rw [wI_at, jx_up_self]))
      have e2 := congrArg Int32.toInt e
      rw [nI_toInt (by omega)] at e2
      have e3 : (-1 : Int32).toInt = -1 := rfl
      omega
    · refine key (some (125 + 6 * f)) (fun e => ?_) (fun f' e hf' => ?_) (fun d bc bs => t_Db_renewLaw d S0 r1 r3.wI (f := f) (nr := nr) (by rw [wI_at, jx_up_self]) (by rw [wI_ne _ _ _ (by decide)]; exact u2) hf u1)
      · have e2 := congrArg Int32.toInt e
        rw [nI_toInt (by omega)] at e2
        have e3 : (-1 : Int32).toInt = -1 := rfl
        omega
      · rw [(nI_eq (by omega) (by omega)).mp e]
  · refine ⟨-2, X, h, q.B, ⟨rfl, rfl⟩, Q7.up (Nat.le_succ n) (Nat.le_refl nr), Q8, (t_Db_force_n 196 q.1 x (by rw [u2]; exact G)).mono (fun r h1 e => ?_), fun h1 S1 g1 m1 => (t_Mo_force 197 S1 x (nr := nr) (by rw [g1 253 (by omega) (by omega)]; exact u3) (by omega)).mono (fun r h2 e => ?_)⟩
    · obtain ⟨rfl, rfl⟩ := e
      exact ⟨rfl, fC.rf, Q5⟩
    · obtain ⟨rfl, rfl⟩ := e
      rw [if_neg G, if_neg G]
      exact ⟨rfl, fM.rf, m1⟩)
