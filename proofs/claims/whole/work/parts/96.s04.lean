/-! a rule told: the model compares -/
theorem cm_0 {T : Nat → Int32} {N b : Nat} (hT : bytT T N) (h1 : ¬ (if b < N then T b else -1) = 60) (h2 : ¬ (if b < N then T b else -1) = 61) (h3 : ¬ (if b < N then T b else -1) = 62) : cmR T N b = 0 := by
  unfold cmR
  by_cases hb : b < N
  · rw [if_pos hb] at h1 h2 h3
    have bt := (hT b hb).2
    unfold tkS
    rw [if_neg (by omega)]
    split
    · decide
    · split
      · decide
      · split
        · rename_i j
          exact absurd (of_decide_eq_true j).1 (fun z => z.elim h1 h3)
        · unfold cmX
          have n1 : ¬ T b = 258 := fun z => by rw [z] at bt; exact absurd bt (by decide)
          have n2 : ¬ T b = 259 := fun z => by rw [z] at bt; exact absurd bt (by decide)
          rw [if_neg h1, if_neg h2, if_neg h3, if_neg n1, if_neg n2]
  · unfold tkS
    rw [if_pos (by omega)]
    decide
theorem tk_j {T : Nat → Int32} {N b : Nat} {x : Int32} (hb : b < N) (e : T b = x) (hx : x = 60 ∨ x = 62) : tkS T N b = (if b + 1 < N ∧ T (b + 1) = 61 then (if x = 60 then 258 else 259) else x) ∧ tkE T N b = (if b + 1 < N ∧ T (b + 1) = 61 then b + 2 else b + 1) := by
  have nd : ¬ isDg x = true ∧ ¬ isLt_ x = true := by rcases hx with rfl | rfl <;> decide
  have hA : ¬ N ≤ b := by omega
  have hB : ¬ isDg (T b) = true := by rw [e]; exact nd.1
  have hC : ¬ isLt_ (T b) = true := by rw [e]; exact nd.2
  have J : b + 1 < N ∧ T (b + 1) = 61 → jnB T N b = true := fun c => decide_eq_true ⟨by rw [e]; exact hx, c.1, c.2⟩
  have nJ : ¬ (b + 1 < N ∧ T (b + 1) = 61) → ¬ jnB T N b = true := fun c z => c (of_decide_eq_true z).2
  refine ⟨?_, ?_⟩
  · unfold tkS
    rw [if_neg hA, if_neg hB, if_neg hC]
    by_cases c : b + 1 < N ∧ T (b + 1) = 61
    · rw [if_pos (J c), if_pos c, e]
    · rw [if_neg (nJ c), if_neg c, e]
  · unfold tkE
    rw [if_neg hA, if_neg hB, if_neg hC]
    by_cases c : b + 1 < N ∧ T (b + 1) = 61
    · rw [if_pos (J c), if_pos c]
    · rw [if_neg (nJ c), if_neg c]
theorem sg_1 {T : Nat → Int32} {N b : Nat} : (if b < N then T b else -1) = 61 ↔ (b < N ∧ T b = 61) := ⟨fun h => sgn_lt h (by decide), fun h => by rw [if_pos h.1]; exact h.2⟩
theorem cm_60s {T : Nat → Int32} {N b : Nat} (h : (if b < N then T b else -1) = 60) (s : (if b + 1 < N then T (b + 1) else -1) = 61) : cmR T N b = -7 ∧ tkE T N b = b + 2 ∧ b + 2 ≤ N := by
  obtain ⟨h1, h2⟩ := sgn_lt h (by decide)
  have c := sg_1.mp s
  obtain ⟨k1, k2⟩ := tk_j h1 h2 (Or.inl rfl)
  unfold cmR
  rw [k1, k2, if_pos c, if_pos c, if_pos rfl]
  exact ⟨by decide, rfl, by omega⟩
theorem cm_60n {T : Nat → Int32} {N b : Nat} (h : (if b < N then T b else -1) = 60) (s : ¬ (if b + 1 < N then T (b + 1) else -1) = 61) : cmR T N b = -6 ∧ tkE T N b = b + 1 ∧ b + 1 ≤ N := by
  obtain ⟨h1, h2⟩ := sgn_lt h (by decide)
  have c := fun z => s (sg_1.mpr z)
  obtain ⟨k1, k2⟩ := tk_j h1 h2 (Or.inl rfl)
  unfold cmR
  rw [k1, k2, if_neg c, if_neg c]
  exact ⟨by decide, rfl, by omega⟩
theorem cm_62s {T : Nat → Int32} {N b : Nat} (h : (if b < N then T b else -1) = 62) (s : (if b + 1 < N then T (b + 1) else -1) = 61) : cmR T N b = -9 ∧ tkE T N b = b + 2 ∧ b + 2 ≤ N := by
  obtain ⟨h1, h2⟩ := sgn_lt h (by decide)
  have c := sg_1.mp s
  obtain ⟨k1, k2⟩ := tk_j h1 h2 (Or.inr rfl)
  unfold cmR
  rw [k1, k2, if_pos c, if_pos c, if_neg (by decide)]
  exact ⟨by decide, rfl, by omega⟩
theorem cm_62n {T : Nat → Int32} {N b : Nat} (h : (if b < N then T b else -1) = 62) (s : ¬ (if b + 1 < N then T (b + 1) else -1) = 61) : cmR T N b = -10 ∧ tkE T N b = b + 1 ∧ b + 1 ≤ N := by
  obtain ⟨h1, h2⟩ := sgn_lt h (by decide)
  have c := fun z => s (sg_1.mpr z)
  obtain ⟨k1, k2⟩ := tk_j h1 h2 (Or.inr rfl)
  unfold cmR
  rw [k1, k2, if_neg c, if_neg c]
  exact ⟨by decide, rfl, by omega⟩
theorem cm_61 {T : Nat → Int32} {N b : Nat} (h : (if b < N then T b else -1) = 61) : cmR T N b = -8 ∧ tkE T N b = b + 1 ∧ b + 1 ≤ N := by
  obtain ⟨h1, h2⟩ := sgn_lt h (by decide)
  have k := (tk_x (T := T) (N := N) (b := b) (x := 61) (by decide) (by decide) (by decide) (by decide)).mpr h
  unfold cmR
  rw [k, tkE_x (by decide) (by decide) (by decide) h1 h2]
  exact ⟨by decide, rfl, by omega⟩
theorem cn_go {h : jx_H} {N sl p q : Nat} {U : Nat → Int32} {s : RS} (B : mrP h N sl U q (cnP p s)) (hN : N ≤ 400) (hp : p ≤ N) (e : s.1 = 0 → p = s.2.1) (hq : q ≤ N) (eq : q = tkE U N p) : mrI h N sl U (avR U N (cnR s)) := by
  by_cases f : s.1 = 0
  · have ep := e f
    subst ep
    have ec : cnP s.2.1 s = cnR s := rfl
    rw [ec] at B
    by_cases z : (cnR s).1 = 0
    · have eb : (cnR s).2.1 = s.2.1 := by rw [← ec]; exact cp_E.2
      refine mr_go B hq ?_ (fun _ => ?_)
      · rw [av_o z]; exact z.symm
      · rw [av_o z]
        exact ⟨by rw [eq, eb], rfl⟩
    · rw [av_f z]
      exact mr_go B hq rfl (fun y => absurd y z)
  · have ec : cnP p s = s := if_neg f
    rw [ec] at B
    rw [cn_f f, av_f f]
    exact mr_go B hq rfl (fun y => absurd y f)
theorem cp_go {h : jx_H} {N sl p q : Nat} {U : Nat → Int32} {s : RS} {x : Int32} (B : mrP h N sl U q (adR x (smR U N (avR U N (cnR (smR U N s)))))) (o : okR U N (smR U N (avR U N (cnR (smR U N s))))) (e : (smR U N s).1 = 0 → p = (smR U N s).2.1) (ex : x = cmR U N p) (nz : ¬ x = 0) (hq : q ≤ N) (eq : (smR U N (avR U N (cnR (smR U N s)))).1 = 0 → q = (smR U N (avR U N (cnR (smR U N s)))).2.1) : mrI h N sl U (cpR U N s) := by
  have ec : cpR U N s = adR (cmR U N (smR U N s).2.1) (smR U N (avR U N (cnR (smR U N s)))) := by
    unfold cpR
    rw [if_neg]
    intro z
    have := e z.1
    rw [← this, ← ex] at z
    exact nz z.2
  rw [ec]
  generalize hu : smR U N (avR U N (cnR (smR U N s))) = u at B o eq ⊢
  by_cases f : u.1 = 0
  · have f1 : (smR U N s).1 = 0 := by
      by_cases y : (smR U N s).1 = 0
      · exact y
      · rw [cn_f y, av_f y, sm_f y] at hu
        rw [← hu] at f
        exact absurd f y
    rw [← e f1, ← ex]
    refine ⟨q, hq, B, fun _ => ?_⟩
    rw [ad_o f, eq f]
    exact (o f).2.1
  · rw [ad_f f] at B ⊢
    exact ⟨q, hq, B, fun y => absurd y f⟩
set_option maxHeartbeats 4000000 in
theorem t_Mo_compared (d : Nat) {bc bs : Nat} {h : jx_H} {N sl : Nat} {U : Nat → Int32} {s : RS} (B0 : mrI h N sl U s) (hN : N ≤ 400) (hsl : sl < 6) (I : iR U N s) (hU : bytT U N) : jx_Tr (d + 9) bc bs 12037 [.ref 253] h (fun r h' => r = none ∧ moF sl h h' ∧ mrI h' N sl U (cpR U N s)) := by
  refine jx_tr jM_Mo_compared rfl rfl (lv := [some (.ref 253), none, none]) rfl ?_
  refine je_aload0 (pc := 0) d12037_0 rfl ?_
  refine ju_callv (pc := 1) (as := []) d12037_1 jL_12_282 jM_Mo_sum rfl (by decide) (sK253 B0.choose_spec.2.1.1.1) rfl (by exact Nat.le_of_ble_eq_true rfl) (t_Mo_sum d B0 hN hsl I) (fun r1 h1 q1 => ?_)
  obtain ⟨rfl, F1, p, hp, B, eB⟩ := q1
  have I1 := gd_i (sm_gd hN) I
  have K60s : (if p < N then U p else -1) = 60 → (if p + 1 < N then U (p + 1) else -1) = 61 → jx_Ev (d + 9) bc bs 12037 37 [some (.ref 253), some (.int 60), none] [] h1 (fun r h' => r = none ∧ moF sl h h' ∧ mrI h' N sl U (cpR U N s)) := by
    intro c1 c2
    refine je_aload0 (pc := 37) d12037_37 rfl ?_
    refine je_aload0 (pc := 38) d12037_38 rfl ?_
    refine ju_geti (pc := 39) d12037_39 jF_12_217 rfl (sK253 B.1.1) ?_
    refine ju_eqi (v := nI p) B.2.2.1 ?_
    refine ju_callv (pc := 42) (as := [_]) d12037_42 jL_12_266 jM_Mo_isCounted rfl (by decide) (sK253 B.1.1) rfl (by exact Nat.le_of_ble_eq_true rfl) (t_Mo_isCounted (d + 6) (q := p) B (by omega) (fun f => (I1.1 f).2.2)) (fun r42 h42 q42 => ?_)
    obtain ⟨rfl, F2, B2⟩ := q42
    refine je_aload0 (pc := 45) d12037_45 rfl ?_
    refine je_dup (pc := 46) d12037_46 rfl ?_
    refine ju_geti (pc := 47) d12037_47 jF_12_217 rfl (sK253 B2.1.1) ?_
    refine ju_eqi (v := nI p) B2.2.2.1 ?_
    refine je_iconst (pc := 50) (v := 1) d12037_50 rfl ?_
    refine je_iadd (pc := 51) d12037_51 ?_
    refine ju_eqi (v := nI ((p) + 1)) (nI_add (p) 1) ?_
    refine ju_puti (pc := 52) d12037_52 jF_12_217 rfl (sK253 B2.1.1) ?_
    have B3 := B2.p (p + 1)
    obtain ⟨m1, m2, m3⟩ := cm_60s c1 c2
    refine je_iload1 (pc := 55) d12037_55 rfl ?_
    refine je_bipush (pc := 56) (v := 61) d12037_56 rfl ?_
    refine jn_iceq (pc := 58) (a := 60) (b := 61) 74 d12037_58 (by decide) (by omega) (by omega) (fun c58 => by exfalso; omega) (fun c58 => ?_)
    refine je_aload0 (pc := 61) d12037_61 rfl ?_
    refine ju_callv (pc := 62) (as := []) d12037_62 jL_12_220 jM_Mo_sign rfl (by decide) (sK253 B2.1.1.wI) rfl (by exact Nat.le_of_ble_eq_true rfl) (t_Mo_sign_R (d + 7) B3 hN (by omega)) (fun r62 h62 q62 => ?_)
    obtain ⟨rfl, e62⟩ := q62
    obtain rfl := e62.symm
    refine je_bipush (pc := 65) (v := 61) d12037_65 rfl ?_
    refine je_icne (pc := 67) 74 d12037_67 (by decide) (fun c67 => absurd c67 (fun z => z c2)) (fun c67 => ?_)
    refine je_iconst (pc := 70) (v := 1) d12037_70 rfl ?_
    refine je_goto (pc := 71) 75 d12037_71 (by decide) ?_
    refine ju_istore2 (pc := 75) (lv' := [some _, some _, some _]) d12037_75 rfl rfl ?_
    refine je_aload0 (pc := 76) d12037_76 rfl ?_
    refine je_dup (pc := 77) d12037_77 rfl ?_
    refine ju_geti (pc := 78) d12037_78 jF_12_217 rfl (sK253 B2.1.1.wI) ?_
    refine ju_eqi (v := nI (p + 1)) B3.2.2.1 ?_
    refine je_iload2 (pc := 81) d12037_81 rfl ?_
    refine jn_ifeq (pc := 82) (a := 1) 89 d12037_82 (by decide) (by omega) (fun c82 => by exfalso; omega) (fun c82 => ?_)
    refine je_iconst (pc := 85) (v := 1) d12037_85 rfl ?_
    refine je_goto (pc := 86) 90 d12037_86 (by decide) ?_
    refine je_iadd (pc := 90) d12037_90 ?_
    refine ju_eqi (v := nI ((p + 1) + 1)) (nI_add (p + 1) 1) ?_
    refine ju_puti (pc := 91) d12037_91 jF_12_217 rfl (sK253 B2.1.1.wI) ?_
    have B4 := B3.p (p + 1 + 1)
    have B5 := cn_go B4 hN hp eB (by omega) (by omega)
    have I2 := av_i (cn_i I1 hN)
    refine je_aload0 (pc := 94) d12037_94 rfl ?_
    refine ju_callv (pc := 95) (as := []) d12037_95 jL_12_282 jM_Mo_sum rfl (by decide) (sK253 B2.1.1.wI.wI) rfl (by exact Nat.le_of_ble_eq_true rfl) (t_Mo_sum d B5 hN hsl I2) (fun r95 h95 q95 => ?_)
    obtain ⟨rfl, F6, p6, h6, B6, e6⟩ := q95
    have I6 := gd_i (sm_gd hN) I2
    refine je_aload0 (pc := 98) d12037_98 rfl ?_
    refine je_iload1 (pc := 99) d12037_99 rfl ?_
    refine je_bipush (pc := 100) (v := 61) d12037_100 rfl ?_
    refine jn_icne (pc := 102) (a := 60) (b := 61) 110 d12037_102 (by decide) (by omega) (by omega) (fun c102 => ?_) (fun c102 => by exfalso; omega)
    refine je_iload1 (pc := 110) d12037_110 rfl ?_
    refine je_bipush (pc := 111) (v := 60) d12037_111 rfl ?_
    refine jn_icne (pc := 113) (a := 60) (b := 60) 128 d12037_113 (by decide) (by omega) (by omega) (fun c113 => by exfalso; omega) (fun c113 => ?_)
    refine je_iload2 (pc := 116) d12037_116 rfl ?_
    refine jn_ifeq (pc := 117) (a := 1) 124 d12037_117 (by decide) (by omega) (fun c117 => by exfalso; omega) (fun c117 => ?_)
    refine je_iconst (pc := 120) (v := 5) d12037_120 rfl ?_
    refine je_goto (pc := 121) 139 d12037_121 (by decide) ?_
    refine je_iconst (pc := 139) (v := 0) d12037_139 rfl ?_
    refine ju_callv (pc := 140) (as := [_, _]) d12037_140 jL_12_269 jM_Mo_entry rfl (by decide) (sK253 B6.1.1) rfl (by exact Nat.le_of_ble_eq_true rfl) (t_Mo_entry (d + 7) (so := 5) (nu := 0) B6 hsl (fun g => by have := i_len I6 hN g; omega) (fun _ => Or.inr (Or.inr (by decide)))) (fun r140 h140 q140 => ?_)
    obtain ⟨rfl, F7, B7⟩ := q140
    refine je_ret (pc := 143) d12037_143 rfl ?_
    exact ⟨rfl, ((((F1.tr F2).tr (moF.w (Or.inl rfl))).tr (moF.w (Or.inl rfl))).tr F6).tr F7, cp_go (p := p) B7 I6.1 eB (by rw [m1]; rfl) (by decide) h6 e6⟩
  have K60n : (if p < N then U p else -1) = 60 → ¬ (if p + 1 < N then U (p + 1) else -1) = 61 → jx_Ev (d + 9) bc bs 12037 37 [some (.ref 253), some (.int 60), none] [] h1 (fun r h' => r = none ∧ moF sl h h' ∧ mrI h' N sl U (cpR U N s)) := by
    intro c1 c2
    refine je_aload0 (pc := 37) d12037_37 rfl ?_
    refine je_aload0 (pc := 38) d12037_38 rfl ?_
    refine ju_geti (pc := 39) d12037_39 jF_12_217 rfl (sK253 B.1.1) ?_
    refine ju_eqi (v := nI p) B.2.2.1 ?_
    refine ju_callv (pc := 42) (as := [_]) d12037_42 jL_12_266 jM_Mo_isCounted rfl (by decide) (sK253 B.1.1) rfl (by exact Nat.le_of_ble_eq_true rfl) (t_Mo_isCounted (d + 6) (q := p) B (by omega) (fun f => (I1.1 f).2.2)) (fun r42 h42 q42 => ?_)
    obtain ⟨rfl, F2, B2⟩ := q42
    refine je_aload0 (pc := 45) d12037_45 rfl ?_
    refine je_dup (pc := 46) d12037_46 rfl ?_
    refine ju_geti (pc := 47) d12037_47 jF_12_217 rfl (sK253 B2.1.1) ?_
    refine ju_eqi (v := nI p) B2.2.2.1 ?_
    refine je_iconst (pc := 50) (v := 1) d12037_50 rfl ?_
    refine je_iadd (pc := 51) d12037_51 ?_
    refine ju_eqi (v := nI ((p) + 1)) (nI_add (p) 1) ?_
    refine ju_puti (pc := 52) d12037_52 jF_12_217 rfl (sK253 B2.1.1) ?_
    have B3 := B2.p (p + 1)
    obtain ⟨m1, m2, m3⟩ := cm_60n c1 c2
    refine je_iload1 (pc := 55) d12037_55 rfl ?_
    refine je_bipush (pc := 56) (v := 61) d12037_56 rfl ?_
    refine jn_iceq (pc := 58) (a := 60) (b := 61) 74 d12037_58 (by decide) (by omega) (by omega) (fun c58 => by exfalso; omega) (fun c58 => ?_)
    refine je_aload0 (pc := 61) d12037_61 rfl ?_
    refine ju_callv (pc := 62) (as := []) d12037_62 jL_12_220 jM_Mo_sign rfl (by decide) (sK253 B2.1.1.wI) rfl (by exact Nat.le_of_ble_eq_true rfl) (t_Mo_sign_R (d + 7) B3 hN (by omega)) (fun r62 h62 q62 => ?_)
    obtain ⟨rfl, e62⟩ := q62
    obtain rfl := e62.symm
    refine je_bipush (pc := 65) (v := 61) d12037_65 rfl ?_
    refine je_icne (pc := 67) 74 d12037_67 (by decide) (fun c67 => ?_) (fun c67 => absurd c67 c2)
    refine je_iconst (pc := 74) (v := 0) d12037_74 rfl ?_
    refine ju_istore2 (pc := 75) (lv' := [some _, some _, some _]) d12037_75 rfl rfl ?_
    refine je_aload0 (pc := 76) d12037_76 rfl ?_
    refine je_dup (pc := 77) d12037_77 rfl ?_
    refine ju_geti (pc := 78) d12037_78 jF_12_217 rfl (sK253 B2.1.1.wI) ?_
    refine ju_eqi (v := nI (p + 1)) B3.2.2.1 ?_
    refine je_iload2 (pc := 81) d12037_81 rfl ?_
    refine jn_ifeq (pc := 82) (a := 0) 89 d12037_82 (by decide) (by omega) (fun c82 => ?_) (fun c82 => by exfalso; omega)
    refine je_iconst (pc := 89) (v := 0) d12037_89 rfl ?_
    refine je_iadd (pc := 90) d12037_90 ?_
    refine ju_eqi (v := nI ((p + 1) + 0)) (nI_add (p + 1) 0) ?_
    refine ju_puti (pc := 91) d12037_91 jF_12_217 rfl (sK253 B2.1.1.wI) ?_
    have B4 := B3.p (p + 1 + 0)
    have B5 := cn_go B4 hN hp eB (by omega) (by omega)
    have I2 := av_i (cn_i I1 hN)
    refine je_aload0 (pc := 94) d12037_94 rfl ?_
    refine ju_callv (pc := 95) (as := []) d12037_95 jL_12_282 jM_Mo_sum rfl (by decide) (sK253 B2.1.1.wI.wI) rfl (by exact Nat.le_of_ble_eq_true rfl) (t_Mo_sum d B5 hN hsl I2) (fun r95 h95 q95 => ?_)
    obtain ⟨rfl, F6, p6, h6, B6, e6⟩ := q95
    have I6 := gd_i (sm_gd hN) I2
    refine je_aload0 (pc := 98) d12037_98 rfl ?_
    refine je_iload1 (pc := 99) d12037_99 rfl ?_
    refine je_bipush (pc := 100) (v := 61) d12037_100 rfl ?_
    refine jn_icne (pc := 102) (a := 60) (b := 61) 110 d12037_102 (by decide) (by omega) (by omega) (fun c102 => ?_) (fun c102 => by exfalso; omega)
    refine je_iload1 (pc := 110) d12037_110 rfl ?_
    refine je_bipush (pc := 111) (v := 60) d12037_111 rfl ?_
    refine jn_icne (pc := 113) (a := 60) (b := 60) 128 d12037_113 (by decide) (by omega) (by omega) (fun c113 => by exfalso; omega) (fun c113 => ?_)
    refine je_iload2 (pc := 116) d12037_116 rfl ?_
    refine jn_ifeq (pc := 117) (a := 0) 124 d12037_117 (by decide) (by omega) (fun c117 => ?_) (fun c117 => by exfalso; omega)
    refine je_iconst (pc := 124) (v := 4) d12037_124 rfl ?_
    refine je_goto (pc := 125) 139 d12037_125 (by decide) ?_
    refine je_iconst (pc := 139) (v := 0) d12037_139 rfl ?_
    refine ju_callv (pc := 140) (as := [_, _]) d12037_140 jL_12_269 jM_Mo_entry rfl (by decide) (sK253 B6.1.1) rfl (by exact Nat.le_of_ble_eq_true rfl) (t_Mo_entry (d + 7) (so := 4) (nu := 0) B6 hsl (fun g => by have := i_len I6 hN g; omega) (fun _ => Or.inr (Or.inr (by decide)))) (fun r140 h140 q140 => ?_)
    obtain ⟨rfl, F7, B7⟩ := q140
    refine je_ret (pc := 143) d12037_143 rfl ?_
    exact ⟨rfl, ((((F1.tr F2).tr (moF.w (Or.inl rfl))).tr (moF.w (Or.inl rfl))).tr F6).tr F7, cp_go (p := p) B7 I6.1 eB (by rw [m1]; rfl) (by decide) h6 e6⟩
  have K61n : (if p < N then U p else -1) = 61 → jx_Ev (d + 9) bc bs 12037 37 [some (.ref 253), some (.int 61), none] [] h1 (fun r h' => r = none ∧ moF sl h h' ∧ mrI h' N sl U (cpR U N s)) := by
    intro c1
    refine je_aload0 (pc := 37) d12037_37 rfl ?_
    refine je_aload0 (pc := 38) d12037_38 rfl ?_
    refine ju_geti (pc := 39) d12037_39 jF_12_217 rfl (sK253 B.1.1) ?_
    refine ju_eqi (v := nI p) B.2.2.1 ?_
    refine ju_callv (pc := 42) (as := [_]) d12037_42 jL_12_266 jM_Mo_isCounted rfl (by decide) (sK253 B.1.1) rfl (by exact Nat.le_of_ble_eq_true rfl) (t_Mo_isCounted (d + 6) (q := p) B (by omega) (fun f => (I1.1 f).2.2)) (fun r42 h42 q42 => ?_)
    obtain ⟨rfl, F2, B2⟩ := q42
    refine je_aload0 (pc := 45) d12037_45 rfl ?_
    refine je_dup (pc := 46) d12037_46 rfl ?_
    refine ju_geti (pc := 47) d12037_47 jF_12_217 rfl (sK253 B2.1.1) ?_
    refine ju_eqi (v := nI p) B2.2.2.1 ?_
    refine je_iconst (pc := 50) (v := 1) d12037_50 rfl ?_
    refine je_iadd (pc := 51) d12037_51 ?_
    refine ju_eqi (v := nI ((p) + 1)) (nI_add (p) 1) ?_
    refine ju_puti (pc := 52) d12037_52 jF_12_217 rfl (sK253 B2.1.1) ?_
    have B3 := B2.p (p + 1)
    obtain ⟨m1, m2, m3⟩ := cm_61 c1
    refine je_iload1 (pc := 55) d12037_55 rfl ?_
    refine je_bipush (pc := 56) (v := 61) d12037_56 rfl ?_
    refine jn_iceq (pc := 58) (a := 61) (b := 61) 74 d12037_58 (by decide) (by omega) (by omega) (fun c58 => ?_) (fun c58 => by exfalso; omega)
    refine je_iconst (pc := 74) (v := 0) d12037_74 rfl ?_
    refine ju_istore2 (pc := 75) (lv' := [some _, some _, some _]) d12037_75 rfl rfl ?_
    refine je_aload0 (pc := 76) d12037_76 rfl ?_
    refine je_dup (pc := 77) d12037_77 rfl ?_
    refine ju_geti (pc := 78) d12037_78 jF_12_217 rfl (sK253 B2.1.1.wI) ?_
    refine ju_eqi (v := nI (p + 1)) B3.2.2.1 ?_
    refine je_iload2 (pc := 81) d12037_81 rfl ?_
    refine jn_ifeq (pc := 82) (a := 0) 89 d12037_82 (by decide) (by omega) (fun c82 => ?_) (fun c82 => by exfalso; omega)
    refine je_iconst (pc := 89) (v := 0) d12037_89 rfl ?_
    refine je_iadd (pc := 90) d12037_90 ?_
    refine ju_eqi (v := nI ((p + 1) + 0)) (nI_add (p + 1) 0) ?_
    refine ju_puti (pc := 91) d12037_91 jF_12_217 rfl (sK253 B2.1.1.wI) ?_
    have B4 := B3.p (p + 1 + 0)
    have B5 := cn_go B4 hN hp eB (by omega) (by omega)
    have I2 := av_i (cn_i I1 hN)
    refine je_aload0 (pc := 94) d12037_94 rfl ?_
    refine ju_callv (pc := 95) (as := []) d12037_95 jL_12_282 jM_Mo_sum rfl (by decide) (sK253 B2.1.1.wI.wI) rfl (by exact Nat.le_of_ble_eq_true rfl) (t_Mo_sum d B5 hN hsl I2) (fun r95 h95 q95 => ?_)
    obtain ⟨rfl, F6, p6, h6, B6, e6⟩ := q95
    have I6 := gd_i (sm_gd hN) I2
    refine je_aload0 (pc := 98) d12037_98 rfl ?_
    refine je_iload1 (pc := 99) d12037_99 rfl ?_
    refine je_bipush (pc := 100) (v := 61) d12037_100 rfl ?_
    refine jn_icne (pc := 102) (a := 61) (b := 61) 110 d12037_102 (by decide) (by omega) (by omega) (fun c102 => by exfalso; omega) (fun c102 => ?_)
    refine je_bipush (pc := 105) (v := 6) d12037_105 rfl ?_
    refine je_goto (pc := 107) 139 d12037_107 (by decide) ?_
    refine je_iconst (pc := 139) (v := 0) d12037_139 rfl ?_
    refine ju_callv (pc := 140) (as := [_, _]) d12037_140 jL_12_269 jM_Mo_entry rfl (by decide) (sK253 B6.1.1) rfl (by exact Nat.le_of_ble_eq_true rfl) (t_Mo_entry (d + 7) (so := 6) (nu := 0) B6 hsl (fun g => by have := i_len I6 hN g; omega) (fun _ => Or.inr (Or.inr (by decide)))) (fun r140 h140 q140 => ?_)
    obtain ⟨rfl, F7, B7⟩ := q140
    refine je_ret (pc := 143) d12037_143 rfl ?_
    exact ⟨rfl, ((((F1.tr F2).tr (moF.w (Or.inl rfl))).tr (moF.w (Or.inl rfl))).tr F6).tr F7, cp_go (p := p) B7 I6.1 eB (by rw [m1]; rfl) (by decide) h6 e6⟩
  have K62s : (if p < N then U p else -1) = 62 → (if p + 1 < N then U (p + 1) else -1) = 61 → jx_Ev (d + 9) bc bs 12037 37 [some (.ref 253), some (.int 62), none] [] h1 (fun r h' => r = none ∧ moF sl h h' ∧ mrI h' N sl U (cpR U N s)) := by
    intro c1 c2
    refine je_aload0 (pc := 37) d12037_37 rfl ?_
    refine je_aload0 (pc := 38) d12037_38 rfl ?_
    refine ju_geti (pc := 39) d12037_39 jF_12_217 rfl (sK253 B.1.1) ?_
    refine ju_eqi (v := nI p) B.2.2.1 ?_
    refine ju_callv (pc := 42) (as := [_]) d12037_42 jL_12_266 jM_Mo_isCounted rfl (by decide) (sK253 B.1.1) rfl (by exact Nat.le_of_ble_eq_true rfl) (t_Mo_isCounted (d + 6) (q := p) B (by omega) (fun f => (I1.1 f).2.2)) (fun r42 h42 q42 => ?_)
    obtain ⟨rfl, F2, B2⟩ := q42
    refine je_aload0 (pc := 45) d12037_45 rfl ?_
    refine je_dup (pc := 46) d12037_46 rfl ?_
    refine ju_geti (pc := 47) d12037_47 jF_12_217 rfl (sK253 B2.1.1) ?_
    refine ju_eqi (v := nI p) B2.2.2.1 ?_
    refine je_iconst (pc := 50) (v := 1) d12037_50 rfl ?_
    refine je_iadd (pc := 51) d12037_51 ?_
    refine ju_eqi (v := nI ((p) + 1)) (nI_add (p) 1) ?_
    refine ju_puti (pc := 52) d12037_52 jF_12_217 rfl (sK253 B2.1.1) ?_
    have B3 := B2.p (p + 1)
    obtain ⟨m1, m2, m3⟩ := cm_62s c1 c2
    refine je_iload1 (pc := 55) d12037_55 rfl ?_
    refine je_bipush (pc := 56) (v := 61) d12037_56 rfl ?_
    refine jn_iceq (pc := 58) (a := 62) (b := 61) 74 d12037_58 (by decide) (by omega) (by omega) (fun c58 => by exfalso; omega) (fun c58 => ?_)
    refine je_aload0 (pc := 61) d12037_61 rfl ?_
    refine ju_callv (pc := 62) (as := []) d12037_62 jL_12_220 jM_Mo_sign rfl (by decide) (sK253 B2.1.1.wI) rfl (by exact Nat.le_of_ble_eq_true rfl) (t_Mo_sign_R (d + 7) B3 hN (by omega)) (fun r62 h62 q62 => ?_)
    obtain ⟨rfl, e62⟩ := q62
    obtain rfl := e62.symm
    refine je_bipush (pc := 65) (v := 61) d12037_65 rfl ?_
    refine je_icne (pc := 67) 74 d12037_67 (by decide) (fun c67 => absurd c67 (fun z => z c2)) (fun c67 => ?_)
    refine je_iconst (pc := 70) (v := 1) d12037_70 rfl ?_
    refine je_goto (pc := 71) 75 d12037_71 (by decide) ?_
    refine ju_istore2 (pc := 75) (lv' := [some _, some _, some _]) d12037_75 rfl rfl ?_
    refine je_aload0 (pc := 76) d12037_76 rfl ?_
    refine je_dup (pc := 77) d12037_77 rfl ?_
    refine ju_geti (pc := 78) d12037_78 jF_12_217 rfl (sK253 B2.1.1.wI) ?_
    refine ju_eqi (v := nI (p + 1)) B3.2.2.1 ?_
    refine je_iload2 (pc := 81) d12037_81 rfl ?_
    refine jn_ifeq (pc := 82) (a := 1) 89 d12037_82 (by decide) (by omega) (fun c82 => by exfalso; omega) (fun c82 => ?_)
    refine je_iconst (pc := 85) (v := 1) d12037_85 rfl ?_
    refine je_goto (pc := 86) 90 d12037_86 (by decide) ?_
    refine je_iadd (pc := 90) d12037_90 ?_
    refine ju_eqi (v := nI ((p + 1) + 1)) (nI_add (p + 1) 1) ?_
    refine ju_puti (pc := 91) d12037_91 jF_12_217 rfl (sK253 B2.1.1.wI) ?_
    have B4 := B3.p (p + 1 + 1)
    have B5 := cn_go B4 hN hp eB (by omega) (by omega)
    have I2 := av_i (cn_i I1 hN)
    refine je_aload0 (pc := 94) d12037_94 rfl ?_
    refine ju_callv (pc := 95) (as := []) d12037_95 jL_12_282 jM_Mo_sum rfl (by decide) (sK253 B2.1.1.wI.wI) rfl (by exact Nat.le_of_ble_eq_true rfl) (t_Mo_sum d B5 hN hsl I2) (fun r95 h95 q95 => ?_)
    obtain ⟨rfl, F6, p6, h6, B6, e6⟩ := q95
    have I6 := gd_i (sm_gd hN) I2
    refine je_aload0 (pc := 98) d12037_98 rfl ?_
    refine je_iload1 (pc := 99) d12037_99 rfl ?_
    refine je_bipush (pc := 100) (v := 61) d12037_100 rfl ?_
    refine jn_icne (pc := 102) (a := 62) (b := 61) 110 d12037_102 (by decide) (by omega) (by omega) (fun c102 => ?_) (fun c102 => by exfalso; omega)
    refine je_iload1 (pc := 110) d12037_110 rfl ?_
    refine je_bipush (pc := 111) (v := 60) d12037_111 rfl ?_
    refine jn_icne (pc := 113) (a := 62) (b := 60) 128 d12037_113 (by decide) (by omega) (by omega) (fun c113 => ?_) (fun c113 => by exfalso; omega)
    refine je_iload2 (pc := 128) d12037_128 rfl ?_
    refine jn_ifeq (pc := 129) (a := 1) 137 d12037_129 (by decide) (by omega) (fun c129 => by exfalso; omega) (fun c129 => ?_)
    refine je_bipush (pc := 132) (v := 7) d12037_132 rfl ?_
    refine je_goto (pc := 134) 139 d12037_134 (by decide) ?_
    refine je_iconst (pc := 139) (v := 0) d12037_139 rfl ?_
    refine ju_callv (pc := 140) (as := [_, _]) d12037_140 jL_12_269 jM_Mo_entry rfl (by decide) (sK253 B6.1.1) rfl (by exact Nat.le_of_ble_eq_true rfl) (t_Mo_entry (d + 7) (so := 7) (nu := 0) B6 hsl (fun g => by have := i_len I6 hN g; omega) (fun _ => Or.inr (Or.inr (by decide)))) (fun r140 h140 q140 => ?_)
    obtain ⟨rfl, F7, B7⟩ := q140
    refine je_ret (pc := 143) d12037_143 rfl ?_
    exact ⟨rfl, ((((F1.tr F2).tr (moF.w (Or.inl rfl))).tr (moF.w (Or.inl rfl))).tr F6).tr F7, cp_go (p := p) B7 I6.1 eB (by rw [m1]; rfl) (by decide) h6 e6⟩
  have K62n : (if p < N then U p else -1) = 62 → ¬ (if p + 1 < N then U (p + 1) else -1) = 61 → jx_Ev (d + 9) bc bs 12037 37 [some (.ref 253), some (.int 62), none] [] h1 (fun r h' => r = none ∧ moF sl h h' ∧ mrI h' N sl U (cpR U N s)) := by
    intro c1 c2
    refine je_aload0 (pc := 37) d12037_37 rfl ?_
    refine je_aload0 (pc := 38) d12037_38 rfl ?_
    refine ju_geti (pc := 39) d12037_39 jF_12_217 rfl (sK253 B.1.1) ?_
    refine ju_eqi (v := nI p) B.2.2.1 ?_
    refine ju_callv (pc := 42) (as := [_]) d12037_42 jL_12_266 jM_Mo_isCounted rfl (by decide) (sK253 B.1.1) rfl (by exact Nat.le_of_ble_eq_true rfl) (t_Mo_isCounted (d + 6) (q := p) B (by omega) (fun f => (I1.1 f).2.2)) (fun r42 h42 q42 => ?_)
    obtain ⟨rfl, F2, B2⟩ := q42
    refine je_aload0 (pc := 45) d12037_45 rfl ?_
    refine je_dup (pc := 46) d12037_46 rfl ?_
    refine ju_geti (pc := 47) d12037_47 jF_12_217 rfl (sK253 B2.1.1) ?_
    refine ju_eqi (v := nI p) B2.2.2.1 ?_
    refine je_iconst (pc := 50) (v := 1) d12037_50 rfl ?_
    refine je_iadd (pc := 51) d12037_51 ?_
    refine ju_eqi (v := nI ((p) + 1)) (nI_add (p) 1) ?_
    refine ju_puti (pc := 52) d12037_52 jF_12_217 rfl (sK253 B2.1.1) ?_
    have B3 := B2.p (p + 1)
    obtain ⟨m1, m2, m3⟩ := cm_62n c1 c2
    refine je_iload1 (pc := 55) d12037_55 rfl ?_
    refine je_bipush (pc := 56) (v := 61) d12037_56 rfl ?_
    refine jn_iceq (pc := 58) (a := 62) (b := 61) 74 d12037_58 (by decide) (by omega) (by omega) (fun c58 => by exfalso; omega) (fun c58 => ?_)
    refine je_aload0 (pc := 61) d12037_61 rfl ?_
    refine ju_callv (pc := 62) (as := []) d12037_62 jL_12_220 jM_Mo_sign rfl (by decide) (sK253 B2.1.1.wI) rfl (by exact Nat.le_of_ble_eq_true rfl) (t_Mo_sign_R (d + 7) B3 hN (by omega)) (fun r62 h62 q62 => ?_)
    obtain ⟨rfl, e62⟩ := q62
    obtain rfl := e62.symm
    refine je_bipush (pc := 65) (v := 61) d12037_65 rfl ?_
    refine je_icne (pc := 67) 74 d12037_67 (by decide) (fun c67 => ?_) (fun c67 => absurd c67 c2)
    refine je_iconst (pc := 74) (v := 0) d12037_74 rfl ?_
    refine ju_istore2 (pc := 75) (lv' := [some _, some _, some _]) d12037_75 rfl rfl ?_
    refine je_aload0 (pc := 76) d12037_76 rfl ?_
    refine je_dup (pc := 77) d12037_77 rfl ?_
    refine ju_geti (pc := 78) d12037_78 jF_12_217 rfl (sK253 B2.1.1.wI) ?_
    refine ju_eqi (v := nI (p + 1)) B3.2.2.1 ?_
    refine je_iload2 (pc := 81) d12037_81 rfl ?_
    refine jn_ifeq (pc := 82) (a := 0) 89 d12037_82 (by decide) (by omega) (fun c82 => ?_) (fun c82 => by exfalso; omega)
    refine je_iconst (pc := 89) (v := 0) d12037_89 rfl ?_
    refine je_iadd (pc := 90) d12037_90 ?_
    refine ju_eqi (v := nI ((p + 1) + 0)) (nI_add (p + 1) 0) ?_
    refine ju_puti (pc := 91) d12037_91 jF_12_217 rfl (sK253 B2.1.1.wI) ?_
    have B4 := B3.p (p + 1 + 0)
    have B5 := cn_go B4 hN hp eB (by omega) (by omega)
    have I2 := av_i (cn_i I1 hN)
    refine je_aload0 (pc := 94) d12037_94 rfl ?_
    refine ju_callv (pc := 95) (as := []) d12037_95 jL_12_282 jM_Mo_sum rfl (by decide) (sK253 B2.1.1.wI.wI) rfl (by exact Nat.le_of_ble_eq_true rfl) (t_Mo_sum d B5 hN hsl I2) (fun r95 h95 q95 => ?_)
    obtain ⟨rfl, F6, p6, h6, B6, e6⟩ := q95
    have I6 := gd_i (sm_gd hN) I2
    refine je_aload0 (pc := 98) d12037_98 rfl ?_
    refine je_iload1 (pc := 99) d12037_99 rfl ?_
    refine je_bipush (pc := 100) (v := 61) d12037_100 rfl ?_
    refine jn_icne (pc := 102) (a := 62) (b := 61) 110 d12037_102 (by decide) (by omega) (by omega) (fun c102 => ?_) (fun c102 => by exfalso; omega)
    refine je_iload1 (pc := 110) d12037_110 rfl ?_
    refine je_bipush (pc := 111) (v := 60) d12037_111 rfl ?_
    refine jn_icne (pc := 113) (a := 62) (b := 60) 128 d12037_113 (by decide) (by omega) (by omega) (fun c113 => ?_) (fun c113 => by exfalso; omega)
    refine je_iload2 (pc := 128) d12037_128 rfl ?_
    refine jn_ifeq (pc := 129) (a := 0) 137 d12037_129 (by decide) (by omega) (fun c129 => ?_) (fun c129 => by exfalso; omega)
    refine je_bipush (pc := 137) (v := 8) d12037_137 rfl ?_
    refine je_iconst (pc := 139) (v := 0) d12037_139 rfl ?_
    refine ju_callv (pc := 140) (as := [_, _]) d12037_140 jL_12_269 jM_Mo_entry rfl (by decide) (sK253 B6.1.1) rfl (by exact Nat.le_of_ble_eq_true rfl) (t_Mo_entry (d + 7) (so := 8) (nu := 0) B6 hsl (fun g => by have := i_len I6 hN g; omega) (fun _ => Or.inr (Or.inr (by decide)))) (fun r140 h140 q140 => ?_)
    obtain ⟨rfl, F7, B7⟩ := q140
    refine je_ret (pc := 143) d12037_143 rfl ?_
    exact ⟨rfl, ((((F1.tr F2).tr (moF.w (Or.inl rfl))).tr (moF.w (Or.inl rfl))).tr F6).tr F7, cp_go (p := p) B7 I6.1 eB (by rw [m1]; rfl) (by decide) h6 e6⟩
  refine je_aload0 (pc := 4) d12037_4 rfl ?_
  refine ju_callv (pc := 5) (as := []) d12037_5 jL_12_220 jM_Mo_sign rfl (by decide) (sK253 B.1.1) rfl (by exact Nat.le_of_ble_eq_true rfl) (t_Mo_sign_R (d + 7) B hN (by omega)) (fun r5 h5 q5 => ?_)
  obtain ⟨rfl, e5⟩ := q5
  obtain rfl := e5.symm
  refine ju_istore1 (pc := 8) (lv' := [some _, some _, none]) d12037_8 rfl rfl ?_
  refine je_iload1 (pc := 9) d12037_9 rfl ?_
  refine je_bipush (pc := 10) (v := 60) d12037_10 rfl ?_
  refine je_iceq (pc := 12) 37 d12037_12 (by decide) (fun c12 => ?_) (fun c12 => ?_)
  · rw [c12]
    by_cases c2 : (if p + 1 < N then U (p + 1) else -1) = 61
    · exact K60s c12 c2
    · exact K60n c12 c2
  · refine je_iload1 (pc := 15) d12037_15 rfl ?_
    refine je_bipush (pc := 16) (v := 61) d12037_16 rfl ?_
    refine je_iceq (pc := 18) 37 d12037_18 (by decide) (fun c18 => ?_) (fun c18 => ?_)
    · rw [c18]
      exact K61n c18
    · refine je_iload1 (pc := 21) d12037_21 rfl ?_
      refine je_bipush (pc := 22) (v := 62) d12037_22 rfl ?_
      refine je_iceq (pc := 24) 37 d12037_24 (by decide) (fun c24 => ?_) (fun c24 => ?_)
      · rw [c24]
        by_cases c2 : (if p + 1 < N then U (p + 1) else -1) = 61
        · exact K62s c24 c2
        · exact K62n c24 c2
      · refine je_aload0 (pc := 27) d12037_27 rfl ?_
        refine je_iconst (pc := 28) (v := 0) d12037_28 rfl ?_
        refine je_aload0 (pc := 29) d12037_29 rfl ?_
        refine ju_geti (pc := 30) d12037_30 jF_12_217 rfl (sK253 B.1.1) ?_
        refine ju_eqi (v := nI p) B.2.2.1 ?_
        refine ju_callv (pc := 33) (as := [_, _]) d12037_33 jL_12_253 jM_Mo_fails rfl (by decide) (sK253 B.1.1) rfl (by exact Nat.le_of_ble_eq_true rfl) (t_Mo_fails_R (d + 7) (q := p) (c := 0) B (by omega) (by decide)) (fun r33 h33 q33 => ?_)
        obtain ⟨rfl, F2, B2⟩ := q33
        refine je_ret (pc := 36) d12037_36 rfl ?_
        have nz := fp_nz (q := p) (c := 0) (s := (smR U N s)) (by omega) (by decide)
        have ec : (cpR U N s).1 = (flP p 0 (smR U N s)).1 := by
          unfold cpR
          by_cases f : (smR U N s).1 = 0
          · have ep := eB f
            have c0 : cmR U N (smR U N s).2.1 = 0 := by rw [← ep]; exact cm_0 hU c12 c18 c24
            rw [if_pos ⟨f, c0⟩, bl_o f, ← ep]
            exact (congrArg Prod.fst (if_pos f : flP p 0 (smR U N s) = _)).symm
          · have ef : flP p 0 (smR U N s) = (smR U N s) := if_neg f
            rw [if_neg (fun z => f z.1), cn_f f, av_f f, sm_f f, ad_f f, ef]
        exact ⟨rfl, F1.tr F2, mr_go B2 hp ec (fun z => absurd (ec.symm.trans z) nz)⟩
