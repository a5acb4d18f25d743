/-! part -/
/-- Euclid, so many steps at most -/
def gdF : Nat → Nat → Nat → Nat
  | 0, h, _ => h
  | k + 1, h, l => if l = 0 then h else gdF k l (h % l)
set_option maxRecDepth 100000 in
theorem gdF_ok : ∀ mi, mi < 11 → ∀ x, x < 411 → gdF 64 x (41 * mi) = Nat.gcd x (41 * mi) := by decide +kernel
theorem nI_0e {a : Nat} (h : a < 2 ^ 31) : nI a = 0 ↔ a = 0 := nI_eq (b := 0) h (by decide)
/-- the class's loop -/
theorem db_gd {d bc bs : Nat} {h : jx_H} {Q : Option Value → jx_H → Prop} (A B : Int32) : ∀ (f hi lo : Nat) (r : Option Value), f ≤ 64 → hi < 2 ^ 31 → lo < 2 ^ 31 → Q (some (.int (nI (gdF f hi lo)))) h → jx_Ev d bc bs 36 7 [some (.int A), some (.int B), some (.int (nI hi)), some (.int (nI lo)), some (.int (nI (64 - f))), r] [] h Q := by
  intro f
  induction f with
  | zero =>
    intro hi lo r _ h1 h2 hq
    refine je_iload (pc := 7) d36_7 rfl ?_
    refine je_bipush (pc := 9) (v := 64) d36_9 rfl ?_
    refine ju_icge (pc := 11) 34 d36_11 (by decide) (fun c11 => ?_) (fun c11 => absurd c11 (by decide))
    refine je_iload2 (pc := 34) d36_34 rfl ?_
    refine je_iret (pc := 35) d36_35 rfl ?_
    exact hq
  | succ f ih =>
    intro hi lo r hf h1 h2 hq
    by_cases c : lo = 0
    · refine je_iload (pc := 7) d36_7 rfl ?_
      refine je_bipush (pc := 9) (v := 64) d36_9 rfl ?_
      refine ju_icge (pc := 11) 34 d36_11 (by decide) (fun c11 => absurd c11 (fun z => z (nI_lt (a := 64 - (f + 1)) (b := 64) (by omega) (by decide)))) (fun c11 => ?_)
      refine je_iload3 (pc := 14) d36_14 rfl ?_
      refine je_ifeq (pc := 15) 34 d36_15 (by decide) (fun c15 => ?_) (fun c15 => absurd c15 (by rw [c]; exact fun z => z rfl))
      refine je_iload2 (pc := 34) d36_34 rfl ?_
      refine je_iret (pc := 35) d36_35 rfl ?_
      rw [gdF, if_pos c] at hq
      exact hq
    · refine je_iload (pc := 7) d36_7 rfl ?_
      refine je_bipush (pc := 9) (v := 64) d36_9 rfl ?_
      refine ju_icge (pc := 11) 34 d36_11 (by decide) (fun c11 => absurd c11 (fun z => z (nI_lt (a := 64 - (f + 1)) (b := 64) (by omega) (by decide)))) (fun c11 => ?_)
      refine je_iload3 (pc := 14) d36_14 rfl ?_
      refine je_ifeq (pc := 15) 34 d36_15 (by decide) (fun c15 => absurd c15 (fun z => c ((nI_0e h2).mp z))) (fun c15 => ?_)
      refine je_iload2 (pc := 18) d36_18 rfl ?_
      refine je_iload3 (pc := 19) d36_19 rfl ?_
      refine je_irem (pc := 20) d36_20 (fun z => c ((nI_0e h2).mp z)) ?_
      refine ju_eqi (v := nI (hi % lo)) (pk_rem h1 (Nat.pos_of_ne_zero c) h2) ?_
      refine ju_istore (pc := 21) (lv' := [some _, some _, some _, some _, some _, some _]) d36_21 rfl rfl ?_
      refine je_iload3 (pc := 23) d36_23 rfl ?_
      refine ju_istore2 (pc := 24) (lv' := [some _, some _, some _, some _, some _, some _]) d36_24 rfl rfl ?_
      refine je_iload (pc := 25) d36_25 rfl ?_
      refine ju_istore3 (pc := 27) (lv' := [some _, some _, some _, some _, some _, some _]) d36_27 rfl rfl ?_
      refine ju_inc (pc := 28) (y := 1) (lv' := [some _, some _, some _, some _, some _, some _]) d36_28 rfl rfl rfl ?_
      refine je_goto (pc := 31) 7 d36_31 (by decide) ?_
      rw [gdF, if_neg c] at hq
      rw [nI_1, show 64 - (f + 1) + 1 = 64 - f by omega]
      exact ih lo (hi % lo) _ (by omega) h2 (Nat.lt_trans (Nat.mod_lt _ (Nat.pos_of_ne_zero c)) h2) hq
set_option maxHeartbeats 2000000 in
theorem t_Db_greatestDivisor (d : Nat) {bc bs : Nat} {h : jx_H} {a b : Nat} (ha : a < 2 ^ 31) (hb : b < 2 ^ 31) : jx_Tr (d + 1) bc bs 36 [.int (nI a), .int (nI b)] h (fun r h' => r = some (.int (nI (gdF 64 a b))) ∧ h' = h) := by
  refine jx_tr jM_Db_greatestDivisor rfl rfl (lv := [some (.int (nI a)), some (.int (nI b)), none, none, none, none]) rfl ?_
  refine je_iload0 (pc := 0) d36_0 rfl ?_
  refine ju_istore2 (pc := 1) (lv' := [some _, some _, some _, none, none, none]) d36_1 rfl rfl ?_
  refine je_iload1 (pc := 2) d36_2 rfl ?_
  refine ju_istore3 (pc := 3) (lv' := [some _, some _, some _, some _, none, none]) d36_3 rfl rfl ?_
  refine je_iconst (pc := 4) (v := 0) d36_4 rfl ?_
  refine ju_istore (pc := 5) (lv' := [some _, some _, some _, some _, some _, none]) d36_5 rfl rfl ?_
  exact db_gd _ _ 64 a b _ (Nat.le_refl 64) ha hb ⟨rfl, rfl⟩
/-- the model's loop -/
theorem mo_gd {d bc bs : Nat} {h : jx_H} {Q : Option Value → jx_H → Prop} (H : jx_St h) (v1 v2 v3 : Int32) : ∀ (x y : Nat) (r : Option Value), x < 2 ^ 31 → y < 2 ^ 31 → (∀ r' : Option Value, jx_Ev d bc bs 12106 90 [some (.ref 253), some (.int v1), some (.int v2), some (.int v3), some (.int 0), some (.int (nI (Nat.gcd x y))), r'] [] h Q) → jx_Ev d bc bs 12106 67 [some (.ref 253), some (.int v1), some (.int v2), some (.int v3), some (.int (nI x)), some (.int (nI y)), r] [] h Q := by
  intro x
  induction x using Nat.strongRecOn with
  | ind x ih =>
    intro y r hx hy k
    by_cases c : x = 0
    · refine je_iload (pc := 67) d12106_67 rfl ?_
      refine je_ifeq (pc := 69) 90 d12106_69 (by decide) (fun c69 => ?_) (fun c69 => absurd c69 (by rw [c]; exact fun z => z rfl))
      subst c
      rw [Nat.gcd_zero_left] at k
      exact k _
    · refine je_iload (pc := 67) d12106_67 rfl ?_
      refine je_ifeq (pc := 69) 90 d12106_69 (by decide) (fun c69 => absurd c69 (fun z => c ((nI_0e hx).mp z))) (fun c69 => ?_)
      refine je_iload (pc := 72) d12106_72 rfl ?_
      refine je_iload (pc := 74) d12106_74 rfl ?_
      refine je_irem (pc := 76) d12106_76 (fun z => c ((nI_0e hx).mp z)) ?_
      refine ju_eqi (v := nI (y % x)) (pk_rem hy (Nat.pos_of_ne_zero c) hx) ?_
      refine ju_istore (pc := 77) (lv' := [some _, some _, some _, some _, some _, some _, some _]) d12106_77 rfl rfl ?_
      refine je_iload (pc := 79) d12106_79 rfl ?_
      refine ju_istore (pc := 81) (lv' := [some _, some _, some _, some _, some _, some _, some _]) d12106_81 rfl rfl ?_
      refine je_iload (pc := 83) d12106_83 rfl ?_
      refine ju_istore (pc := 85) (lv' := [some _, some _, some _, some _, some _, some _, some _]) d12106_85 rfl rfl ?_
      refine je_goto (pc := 87) 67 d12106_87 (by decide) ?_
      exact ih (y % x) (Nat.mod_lt _ (Nat.pos_of_ne_zero c)) x _ (Nat.lt_trans (Nat.mod_lt _ (Nat.pos_of_ne_zero c)) hx) hx (fun r => by have := k r; rw [Nat.gcd_rec] at this; exact this)
theorem sumI_b {f : Nat → Int32} {B : Nat} : ∀ {n : Nat}, (∀ j, j < n → ∃ a, a ≤ B ∧ f j = nI a) → ∃ W, W ≤ B * n ∧ sumI f n = nI W
  | 0, _ => ⟨0, by omega, rfl⟩
  | n + 1, e => by
    obtain ⟨W, h1, h2⟩ := sumI_b (n := n) (fun j hj => e j (by omega))
    obtain ⟨a, h3, h4⟩ := e n (by omega)
    exact ⟨W + a, by rw [Nat.mul_succ]; omega, by rw [sumI, h2, h4, nI_add]⟩
theorem lin20 {x : Int32} (h : bdI x (-20) 20) : ∃ a, a ≤ 40 ∧ x + 20 = nI a := by
  obtain ⟨h1, h2⟩ := h
  refine ⟨(x.toInt + 20).toNat, by omega, Int32.toInt_inj.mp ?_⟩
  rw [nI_toInt (by omega), Int32.toInt_add, show (20 : Int32).toInt = 20 from rfl]
  have : (x.toInt + 20).bmod (2 ^ 32) = x.toInt + 20 := Int.bmod_eq_of_le (by omega) (by omega)
  rw [this]
  omega
set_option maxHeartbeats 2000000 in
theorem t_Db_part_n (d : Nat) {bc bs : Nat} {h : jx_H} {s : Nat} (H : jx_St h) (hr : h.2.2.2 26 0 = some s) (P : jx_Sp h s) (x : Int32) (G : ¬ (0 < h.2.1 s 0 ∧ ¬ x < 0 ∧ ¬ 1 < x)) : jx_Tr (d + 2) bc bs 35 [.ref 1, .int x] h (fun r h' => r = some (.int (-1)) ∧ h' = h) := by
  refine jx_tr jM_Db_part rfl rfl (lv := [some (.ref 1), some (.int x), none, none, none]) rfl ?_
  refine je_aload0 (pc := 0) d35_0 rfl ?_
  refine ju_callv (pc := 1) (as := []) d35_1 jL_0_169 jM_Db_hasStrip rfl (by decide) (sK1 H) rfl (by exact Nat.le_of_ble_eq_true rfl) (t_Db_hasStrip (d + 0) H hr P) (fun r1 h1 q1 => ?_)
  obtain ⟨rfl, e1⟩ := q1
  obtain rfl := e1.symm
  refine je_ifeq (pc := 4) 16 d35_4 (by decide) (fun c4 => ?_) (fun c4 => ?_)
  · refine je_iconst (pc := 16) (v := -1) d35_16 rfl ?_
    refine je_iret (pc := 17) d35_17 rfl ?_
    exact ⟨rfl, rfl⟩
  · refine je_iload1 (pc := 7) d35_7 rfl ?_
    refine je_iflt (pc := 8) 16 d35_8 (by decide) (fun c8 => ?_) (fun c8 => ?_)
    · refine je_iconst (pc := 16) (v := -1) d35_16 rfl ?_
      refine je_iret (pc := 17) d35_17 rfl ?_
      exact ⟨rfl, rfl⟩
    · refine je_iload1 (pc := 11) d35_11 rfl ?_
      refine je_iconst (pc := 12) (v := 1) d35_12 rfl ?_
      refine ju_icle (pc := 13) 18 d35_13 (by decide) (fun c13 => ?_) (fun c13 => ?_)
      · exact absurd ⟨b2_n c4, c8, c13⟩ G
      · refine je_iconst (pc := 16) (v := -1) d35_16 rfl ?_
        refine je_iret (pc := 17) d35_17 rfl ?_
        exact ⟨rfl, rfl⟩
set_option maxHeartbeats 2000000 in
theorem t_Db_part (d : Nat) {bc bs : Nat} {h : jx_H} {s : Nat} (H : jx_St h) (hr : h.2.2.2 26 0 = some s) (P : jx_Sp h s) {mi W : Nat} (x : Int32) (hm : h.2.1 s 0 = nI mi) (h0 : 0 < mi) (hmi : mi ≤ 10) (hx : ¬ x < 0 ∧ ¬ 1 < x) (hW : sumI (fun m => h.2.1 41 m + 20) mi = nI W) (hW2 : W ≤ 400) : jx_Tr (d + 2) bc bs 35 [.ref 1, .int x] h (fun r h' => r = some (.int (if x = 0 then nI (W / Nat.gcd W (41 * mi)) else nI (41 * mi / Nat.gcd W (41 * mi)))) ∧ h' = h) := by
  refine jx_tr jM_Db_part rfl rfl (lv := [some (.ref 1), some (.int x), none, none, none]) rfl ?_
  have hg : 0 < Nat.gcd W (41 * mi) := Nat.gcd_pos_of_pos_right _ (by omega)
  have hg2 : Nat.gcd W (41 * mi) ≤ 41 * mi := Nat.gcd_le_right _ (by omega)
  refine je_aload0 (pc := 0) d35_0 rfl ?_
  refine ju_callv (pc := 1) (as := []) d35_1 jL_0_169 jM_Db_hasStrip rfl (by decide) (sK1 H) rfl (by exact Nat.le_of_ble_eq_true rfl) (t_Db_hasStrip (d + 0) H hr P) (fun r1 h1 q1 => ?_)
  obtain ⟨rfl, e1⟩ := q1
  obtain rfl := e1.symm
  refine je_ifeq (pc := 4) 16 d35_4 (by decide) (fun c4 => absurd c4 (fun c => b2_0.mp c (by rw [hm]; exact nI_lt (a := 0) h0 (by omega)))) (fun c4 => ?_)
  refine je_iload1 (pc := 7) d35_7 rfl ?_
  refine je_iflt (pc := 8) 16 d35_8 (by decide) (fun c8 => absurd c8 hx.1) (fun c8 => ?_)
  refine je_iload1 (pc := 11) d35_11 rfl ?_
  refine je_iconst (pc := 12) (v := 1) d35_12 rfl ?_
  refine ju_icle (pc := 13) 18 d35_13 (by decide) (fun c13 => ?_) (fun c13 => absurd c13 hx.2)
  refine je_iconst (pc := 18) (v := 0) d35_18 rfl ?_
  refine ju_istore2 (pc := 19) (lv' := [some _, some _, some _, none, none]) d35_19 rfl rfl ?_
  refine je_iconst (pc := 20) (v := 0) d35_20 rfl ?_
  refine ju_istore3 (pc := 21) (lv' := [some _, some _, some _, some _, none]) d35_21 rfl rfl ?_
  refine je_loop (σ := Unit) (mi) (fun k xx => [some (.ref 1), some (.int x), some (.int (sumI (fun m => h.2.1 41 m + 20) k)), some (.int (nI k)), none]) (fun _ _ h' => h' = h) (fun k xx h' hk e kk => ?_) (fun xx h' e => ?_) (0) () h (by omega) rfl
  · obtain rfl := e.symm
    refine je_iload3 (pc := 22) d35_22 rfl ?_
    refine je_aload0 (pc := 23) d35_23 rfl ?_
    refine ju_getr (pc := 24) (b := 26) d35_24 jF_0_41 rfl (sK1 H) (sR1_5 H) ?_
    refine ju_getr (pc := 27) (b := s) d35_27 jF_0_143 rfl (sK26 H) hr ?_
    refine ju_geti (pc := 30) d35_30 jF_0_293 rfl P.1.1 ?_
    refine ju_icge (pc := 33) 60 d35_33 (by decide) (fun c33 => absurd c33 (by rw [hm]; exact fun z => z (nI_lt hk (by omega)))) (fun c33 => ?_)
    refine je_iload2 (pc := 36) d35_36 rfl ?_
    refine je_aload0 (pc := 37) d35_37 rfl ?_
    refine ju_getr (pc := 38) (b := 26) d35_38 jF_0_41 rfl (sK1 H) (sR1_5 H) ?_
    refine ju_getr (pc := 41) (b := 40) d35_41 jF_0_124 rfl (sK26 H) (sR26_1 H) ?_
    refine ju_getr (pc := 44) (b := 41) d35_44 jF_0_128 rfl (sK40 H) (sR40_0 H) ?_
    refine je_iload3 (pc := 47) d35_47 rfl ?_
    refine ju_iald (pc := 48) (jn := k) d35_48 (sK41 H) (vp_in_nI (by omega) (by decide)) (nI_clamp (by omega)) ?_
    refine je_bipush (pc := 49) (v := 20) d35_49 rfl ?_
    refine je_iadd (pc := 51) d35_51 ?_
    refine je_iadd (pc := 52) d35_52 ?_
    refine ju_istore2 (pc := 53) (lv' := [some _, some _, some _, some _, none]) d35_53 rfl rfl ?_
    refine ju_inc (pc := 54) (y := 1) (lv' := [some _, some _, some _, some _, none]) d35_54 rfl rfl rfl ?_
    refine je_goto (pc := 57) 22 d35_57 (by decide) ?_
    rw [nI_1 k]
    exact kk () h rfl
  · obtain rfl := e.symm
    refine je_iload3 (pc := 22) d35_22 rfl ?_
    refine je_aload0 (pc := 23) d35_23 rfl ?_
    refine ju_getr (pc := 24) (b := 26) d35_24 jF_0_41 rfl (sK1 H) (sR1_5 H) ?_
    refine ju_getr (pc := 27) (b := s) d35_27 jF_0_143 rfl (sK26 H) hr ?_
    refine ju_geti (pc := 30) d35_30 jF_0_293 rfl P.1.1 ?_
    refine ju_icge (pc := 33) 60 d35_33 (by decide) (fun c33 => ?_) (fun c33 => absurd c33 (by rw [hm]; exact nI_nlt (Nat.le_refl mi) (by omega)))
    refine je_bipush (pc := 60) (v := 41) d35_60 rfl ?_
    refine je_aload0 (pc := 62) d35_62 rfl ?_
    refine ju_getr (pc := 63) (b := 26) d35_63 jF_0_41 rfl (sK1 H) (sR1_5 H) ?_
    refine ju_getr (pc := 66) (b := s) d35_66 jF_0_143 rfl (sK26 H) hr ?_
    refine ju_geti (pc := 69) d35_69 jF_0_293 rfl P.1.1 ?_
    refine je_imul (pc := 72) d35_72 ?_
    refine ju_eqi (v := nI (41 * mi)) (by rw [hm]; exact pk_mul 41 mi) ?_
    refine ju_istore3 (pc := 73) (lv' := [some _, some _, some _, some _, none]) d35_73 rfl rfl ?_
    refine je_iload2 (pc := 74) d35_74 rfl ?_
    refine ju_eqi (v := nI W) hW ?_
    refine je_iload3 (pc := 75) d35_75 rfl ?_
    refine ju_calls (pc := 76) (as := [_, _]) d35_76 jL_0_295 jM_Db_greatestDivisor rfl rfl (by exact Nat.le_of_ble_eq_true rfl) (t_Db_greatestDivisor (d + 0) (by omega) (by omega)) (fun r76 h76 q76 => ?_)
    obtain ⟨rfl, e76⟩ := q76
    obtain rfl := e76.symm
    refine ju_eqi (v := nI (Nat.gcd W (41 * mi))) (by rw [gdF_ok mi (by omega) W (by omega)]) ?_
    refine je_iconst (pc := 79) (v := 1) d35_79 rfl ?_
    refine je_mmax (pc := 80) d35_80 jLm_0_209 (by exact Nat.le_of_ble_eq_true rfl) ?_
    refine ju_eqi (v := nI (Nat.gcd W (41 * mi))) (if_neg (nI_nlt (b := 1) hg (by omega))) ?_
    refine ju_istore (pc := 83) (lv' := [some _, some _, some _, some _, some _]) d35_83 rfl rfl ?_
    refine je_iload1 (pc := 85) d35_85 rfl ?_
    refine je_ifne (pc := 86) 93 d35_86 (by decide) (fun c86 => ?_) (fun c86 => ?_)
    · refine je_iload3 (pc := 93) d35_93 rfl ?_
      refine je_iload (pc := 94) d35_94 rfl ?_
      refine je_idiv (pc := 96) d35_96 (nI_ne0 hg (by omega)) ?_
      refine je_iret (pc := 97) d35_97 rfl ?_
      exact ⟨by rw [if_neg c86, pk_div (by omega) hg (by omega)], rfl⟩
    · refine je_iload2 (pc := 89) d35_89 rfl ?_
      refine ju_eqi (v := nI W) hW ?_
      refine je_goto (pc := 90) 94 d35_90 (by decide) ?_
      refine je_iload (pc := 94) d35_94 rfl ?_
      refine je_idiv (pc := 96) d35_96 (nI_ne0 hg (by omega)) ?_
      refine je_iret (pc := 97) d35_97 rfl ?_
      exact ⟨by rw [if_pos c86, pk_div (by omega) hg (by omega)], rfl⟩
set_option maxHeartbeats 2000000 in
theorem t_Mo_part_n (d : Nat) {bc bs : Nat} {h : jx_H} (H : jx_St h) (x : Int32) (G : ¬ (0 < h.2.1 254 0 ∧ (¬ x < 0 ∧ ¬ 1 < x))) : jx_Tr (d + 2) bc bs 12106 [.ref 253, .int x] h (fun r h' => r = some (.int (-1)) ∧ h' = h) := by
  refine jx_tr jM_Mo_part rfl rfl (lv := [some (.ref 253), some (.int x), none, none, none, none, none]) rfl ?_
  refine je_aload0 (pc := 0) d12106_0 rfl ?_
  refine ju_callv (pc := 1) (as := []) d12106_1 jL_12_400 jM_Mo_isStrip rfl (by decide) (sK253 H) rfl (by exact Nat.le_of_ble_eq_true rfl) (t_Mo_isStrip (d + 0) H) (fun r1 h1 q1 => ?_)
  obtain ⟨rfl, e1⟩ := q1
  obtain rfl := e1.symm
  refine je_ifeq (pc := 4) 17 d12106_4 (by decide) (fun c4 => ?_) (fun c4 => ?_)
  · refine je_iconst (pc := 17) (v := -1) d12106_17 rfl ?_
    refine je_iret (pc := 18) d12106_18 rfl ?_
    exact ⟨rfl, rfl⟩
  · refine je_iload1 (pc := 7) d12106_7 rfl ?_
    refine je_i2l (pc := 8) d12106_8 ?_
    refine je_lconst0 (pc := 9) d12106_9 ?_
    refine je_lconst1 (pc := 10) d12106_10 ?_
    refine ju_calls (pc := 11) (as := [_, _, _]) d12106_11 jL_12_170 jM_Mo_in rfl rfl (by exact Nat.le_of_ble_eq_true rfl) (t_Mo_in (d + 0) _ _ _) (fun r11 h11 q11 => ?_)
    obtain ⟨rfl, e11⟩ := q11
    obtain rfl := e11.symm
    refine ju_eqi (v := b2 (¬ x < 0 ∧ ¬ 1 < x)) (in_0 x (n := 1) (by decide)) ?_
    refine je_ifne (pc := 14) 19 d12106_14 (by decide) (fun c14 => ?_) (fun c14 => ?_)
    · exact absurd ⟨b2_n c4, b2_n c14⟩ G
    · refine je_iconst (pc := 17) (v := -1) d12106_17 rfl ?_
      refine je_iret (pc := 18) d12106_18 rfl ?_
      exact ⟨rfl, rfl⟩
set_option maxHeartbeats 2000000 in
theorem t_Mo_part (d : Nat) {bc bs : Nat} {h : jx_H} {mi W : Nat} (H : jx_St h) (x : Int32) (hm : h.2.1 254 0 = nI mi) (h0 : 0 < mi) (hmi : mi ≤ 10) (hx : ¬ x < 0 ∧ ¬ 1 < x) (hW : sumI (fun m => h.2.1 255 m + 20) mi = nI W) (hW2 : W ≤ 400) : jx_Tr (d + 2) bc bs 12106 [.ref 253, .int x] h (fun r h' => r = some (.int (if x = 0 then nI (W / Nat.gcd W (41 * mi)) else nI (41 * mi / Nat.gcd W (41 * mi)))) ∧ h' = h) := by
  refine jx_tr jM_Mo_part rfl rfl (lv := [some (.ref 253), some (.int x), none, none, none, none, none]) rfl ?_
  have hg : 0 < Nat.gcd W (41 * mi) := Nat.gcd_pos_of_pos_right _ (by omega)
  have hg2 : Nat.gcd W (41 * mi) ≤ 41 * mi := Nat.gcd_le_right _ (by omega)
  refine je_aload0 (pc := 0) d12106_0 rfl ?_
  refine ju_callv (pc := 1) (as := []) d12106_1 jL_12_400 jM_Mo_isStrip rfl (by decide) (sK253 H) rfl (by exact Nat.le_of_ble_eq_true rfl) (t_Mo_isStrip (d + 0) H) (fun r1 h1 q1 => ?_)
  obtain ⟨rfl, e1⟩ := q1
  obtain rfl := e1.symm
  refine je_ifeq (pc := 4) 17 d12106_4 (by decide) (fun c4 => absurd c4 (fun c => b2_0.mp c (by rw [hm]; exact nI_lt (a := 0) h0 (by omega)))) (fun c4 => ?_)
  refine je_iload1 (pc := 7) d12106_7 rfl ?_
  refine je_i2l (pc := 8) d12106_8 ?_
  refine je_lconst0 (pc := 9) d12106_9 ?_
  refine je_lconst1 (pc := 10) d12106_10 ?_
  refine ju_calls (pc := 11) (as := [_, _, _]) d12106_11 jL_12_170 jM_Mo_in rfl rfl (by exact Nat.le_of_ble_eq_true rfl) (t_Mo_in (d + 0) _ _ _) (fun r11 h11 q11 => ?_)
  obtain ⟨rfl, e11⟩ := q11
  obtain rfl := e11.symm
  refine ju_eqi (v := b2 (¬ x < 0 ∧ ¬ 1 < x)) (in_0 x (n := 1) (by decide)) ?_
  refine je_ifne (pc := 14) 19 d12106_14 (by decide) (fun c14 => ?_) (fun c14 => absurd c14 (fun c => b2_0.mp c hx))
  refine je_iconst (pc := 19) (v := 0) d12106_19 rfl ?_
  refine ju_istore2 (pc := 20) (lv' := [some _, some _, some _, none, none, none, none]) d12106_20 rfl rfl ?_
  refine je_iconst (pc := 21) (v := 0) d12106_21 rfl ?_
  refine ju_istore3 (pc := 22) (lv' := [some _, some _, some _, some _, none, none, none]) d12106_22 rfl rfl ?_
  refine je_loop (σ := Unit) (mi) (fun k xx => [some (.ref 253), some (.int x), some (.int (sumI (fun m => h.2.1 255 m + 20) k)), some (.int (nI k)), none, none, none]) (fun _ _ h' => h' = h) (fun k xx h' hk e kk => ?_) (fun xx h' e => ?_) (0) () h (by omega) rfl
  · obtain rfl := e.symm
    refine je_iload3 (pc := 23) d12106_23 rfl ?_
    refine je_aload0 (pc := 24) d12106_24 rfl ?_
    refine ju_getr (pc := 25) (b := 254) d12106_25 jF_12_9 rfl (sK253 H) (sR253_1 H) ?_
    refine je_iconst (pc := 28) (v := 0) d12106_28 rfl ?_
    refine ju_iald (pc := 29) (jn := 0) d12106_29 (sK254 H) (by first | assumption | exact jx_ok_dec (by decide)) (by decide) ?_
    refine ju_icge (pc := 30) 51 d12106_30 (by decide) (fun c30 => absurd c30 (by rw [hm]; exact fun z => z (nI_lt hk (by omega)))) (fun c30 => ?_)
    refine je_iload2 (pc := 33) d12106_33 rfl ?_
    refine je_aload0 (pc := 34) d12106_34 rfl ?_
    refine ju_getr (pc := 35) (b := 255) d12106_35 jF_12_13 rfl (sK253 H) (sR253_2 H) ?_
    refine je_iload3 (pc := 38) d12106_38 rfl ?_
    refine ju_iald (pc := 39) (jn := k) d12106_39 (sK255 H) (vp_in_nI (by omega) (by decide)) (nI_clamp (by omega)) ?_
    refine je_bipush (pc := 40) (v := 20) d12106_40 rfl ?_
    refine je_iadd (pc := 42) d12106_42 ?_
    refine je_iadd (pc := 43) d12106_43 ?_
    refine ju_istore2 (pc := 44) (lv' := [some _, some _, some _, some _, none, none, none]) d12106_44 rfl rfl ?_
    refine ju_inc (pc := 45) (y := 1) (lv' := [some _, some _, some _, some _, none, none, none]) d12106_45 rfl rfl rfl ?_
    refine je_goto (pc := 48) 23 d12106_48 (by decide) ?_
    rw [nI_1 k]
    exact kk () h rfl
  · obtain rfl := e.symm
    refine je_iload3 (pc := 23) d12106_23 rfl ?_
    refine je_aload0 (pc := 24) d12106_24 rfl ?_
    refine ju_getr (pc := 25) (b := 254) d12106_25 jF_12_9 rfl (sK253 H) (sR253_1 H) ?_
    refine je_iconst (pc := 28) (v := 0) d12106_28 rfl ?_
    refine ju_iald (pc := 29) (jn := 0) d12106_29 (sK254 H) (by first | assumption | exact jx_ok_dec (by decide)) (by decide) ?_
    refine ju_icge (pc := 30) 51 d12106_30 (by decide) (fun c30 => ?_) (fun c30 => absurd c30 (by rw [hm]; exact nI_nlt (Nat.le_refl mi) (by omega)))
    refine je_bipush (pc := 51) (v := 41) d12106_51 rfl ?_
    refine je_aload0 (pc := 53) d12106_53 rfl ?_
    refine ju_getr (pc := 54) (b := 254) d12106_54 jF_12_9 rfl (sK253 H) (sR253_1 H) ?_
    refine je_iconst (pc := 57) (v := 0) d12106_57 rfl ?_
    refine ju_iald (pc := 58) (jn := 0) d12106_58 (sK254 H) (by first | assumption | exact jx_ok_dec (by decide)) (by decide) ?_
    refine je_imul (pc := 59) d12106_59 ?_
    refine ju_eqi (v := nI (41 * mi)) (by rw [hm]; exact pk_mul 41 mi) ?_
    refine ju_istore3 (pc := 60) (lv' := [some _, some _, some _, some _, none, none, none]) d12106_60 rfl rfl ?_
    refine je_iload2 (pc := 61) d12106_61 rfl ?_
    refine ju_eqi (v := nI W) hW ?_
    refine ju_istore (pc := 62) (lv' := [some _, some _, some _, some _, some _, none, none]) d12106_62 rfl rfl ?_
    refine je_iload3 (pc := 64) d12106_64 rfl ?_
    refine ju_istore (pc := 65) (lv' := [some _, some _, some _, some _, some _, some _, none]) d12106_65 rfl rfl ?_
    refine mo_gd H _ _ _ W (41 * mi) _ (by omega) (by omega) (fun r' => ?_)
    refine je_iload1 (pc := 90) d12106_90 rfl ?_
    refine je_ifne (pc := 91) 101 d12106_91 (by decide) (fun c91 => ?_) (fun c91 => ?_)
    · refine je_iload3 (pc := 101) d12106_101 rfl ?_
      refine je_iload (pc := 102) d12106_102 rfl ?_
      refine je_idiv (pc := 104) d12106_104 (nI_ne0 hg (by omega)) ?_
      refine je_iret (pc := 105) d12106_105 rfl ?_
      exact ⟨by rw [if_neg c91, pk_div (by omega) hg (by omega)], rfl⟩
    · refine je_iload2 (pc := 94) d12106_94 rfl ?_
      refine ju_eqi (v := nI W) hW ?_
      refine je_iload (pc := 95) d12106_95 rfl ?_
      refine je_idiv (pc := 97) d12106_97 (nI_ne0 hg (by omega)) ?_
      refine je_goto (pc := 98) 105 d12106_98 (by decide) ?_
      refine je_iret (pc := 105) d12106_105 rfl ?_
      exact ⟨by rw [if_pos c91, pk_div (by omega) hg (by omega)], rfl⟩
theorem op_part (x : Int32) : jo Inv 35 12106 [.int x] := jo_ro (fun n h t nr rs X Y q => by
  obtain ⟨s, r1, r2, r3, ⟨⟨a1, -⟩, -⟩, l1, l2, l3, l4, l5, l6⟩ := q.cl
  obtain ⟨⟨⟨m1, -⟩, -⟩, ⟨k1, k2, k3, k4⟩⟩ := q.mo
  obtain ⟨b1, b2', b3⟩ := q.mi
  obtain ⟨-, -, -, -, -, -, ⟨-, ⟨wl, -⟩, -⟩, -⟩ := id q
  by_cases G : 0 < X.1.1.1 ∧ (¬ x < 0 ∧ ¬ 1 < x)
  · obtain ⟨W, h1, h2⟩ := sumI_b (f := fun m => h.2.1 41 m + 20) (B := 40) (n := X.1.1.1) (fun j hj => by
      show ∃ a, a ≤ 40 ∧ h.2.1 41 j + 20 = nI a
      rw [show h.2.1 41 j = X.2.1.1 j from l1 j (by omega)]
      exact lin20 (wl j (by omega)).1)
    have h3 : sumI (fun m => h.2.1 255 m + 20) X.1.1.1 = nI W := by
      rw [← h2]
      refine sumI_cg (fun j hj => ?_)
      show h.2.1 255 j + 20 = h.2.1 41 j + 20
      rw [(k1 j (by omega)).1, show h.2.1 41 j = X.2.1.1 j from l1 j (by omega)]
    exact ⟨_, t_Db_part 197 q.1 r1 r3 x a1 G.1 b1 G.2 h2 (by omega), t_Mo_part 197 q.1 x m1 G.1 b1 G.2 h3 (by omega)⟩
  · have z : ∀ c : 0 < nI X.1.1.1, 0 < X.1.1.1 := fun c => (nI_ltI (a := 0) (by decide) (by omega)).mp c
    exact ⟨_, t_Db_part_n 197 q.1 r1 r3 x (fun c => G ⟨z (by have := c.1; rw [a1] at this; exact this), c.2⟩), t_Mo_part_n 197 q.1 x (fun c => G ⟨z (by have := c.1; rw [m1] at this; exact this), c.2⟩)⟩)
