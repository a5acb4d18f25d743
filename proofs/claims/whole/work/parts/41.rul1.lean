/-! rules: their mathematics; the class reckons by them -/
/-- two values joined by a sign -/
def jnR (op : Int32) (a b : Int64) : Int64 :=
  if op = -12 then a ||| b else if op = -11 then a &&& b else if op = -10 then (if b < a then 1 else 0) else if op = -9 then (if a < b then 0 else 1) else if op = -8 then (if a = b then 1 else 0) else if op = -7 then (if b < a then 0 else 1) else if op = -6 then (if a < b then 1 else 0)
  else if op = -5 then (if b = 0 then 0 else a - a / b * b) else if op = -4 then (if b = 0 then 0 else a / b) else if op = -3 then a * b else if op = -2 then a - b else if op = -1 then a + b else 0
/-- a sign of a rule's code, on the stack -/
def ev1 (wd : Nat → Int64) (x : Int32) (st : List Int64) : List Int64 :=
  if ¬ x < 0 then (if x < 100000 then x.toInt64 else wd (x - 100000).toNatClampNeg) :: st
  else if x = -13 then (match st with | y :: u => (1 - y) :: u | [] => [])
  else (match st with | b :: a :: u => jnR x a b :: u | u => u)
def evR (c : Nat → Int32) (wd : Nat → Int64) (a : Nat) : Nat → List Int64
  | 0 => []
  | n + 1 => ev1 wd (c (a + n)) (evR c wd a n)
/-- a stack of these kinds -/
def mtc : List Int64 → List Bool → Prop
  | [], [] => True
  | x :: u, b :: v => (b = true → x = 0 ∨ x = 1) ∧ mtc u v
  | _, _ => False
theorem mtc.len : ∀ {s : List Int64} {t : List Bool}, mtc s t → s.length = t.length
  | [], [], _ => rfl
  | x :: u, b :: v, h => by rw [List.length_cons, List.length_cons, mtc.len h.2]
  | [], _ :: _, h => h.elim
  | _ :: _, [], h => h.elim
theorem jnR_t {x : Int32} (a b : Int64) (h : x < -5) (h1 : ¬ x = -11) (h2 : ¬ x = -12) : jnR x a b = 0 ∨ jnR x a b = 1 := by
  have n5 : ¬ x = -5 := fun e => by subst e; exact absurd h (by decide)
  have n4 : ¬ x = -4 := fun e => by subst e; exact absurd h (by decide)
  have n3 : ¬ x = -3 := fun e => by subst e; exact absurd h (by decide)
  have n2 : ¬ x = -2 := fun e => by subst e; exact absurd h (by decide)
  have n1 : ¬ x = -1 := fun e => by subst e; exact absurd h (by decide)
  unfold jnR
  rw [if_neg h2, if_neg h1, if_neg n5, if_neg n4, if_neg n3, if_neg n2, if_neg n1]
  repeat' split
  all_goals simp
theorem tru_and {a b : Int64} (ha : a = 0 ∨ a = 1) (hb : b = 0 ∨ b = 1) : (a &&& b = 0 ∨ a &&& b = 1) ∧ (a ||| b = 0 ∨ a ||| b = 1) := by
  rcases ha with rfl | rfl <;> rcases hb with rfl | rfl <;> decide
theorem rpt_s {c : Nat → Int32} {a n : Nat} {t0 t : List Bool} (h : rpt c a (n + 1) t0 = some t) : ∃ u, rpt c a n t0 = some u ∧ rpt1 (c (a + n)) u = some t := by
  rw [rpt] at h
  split at h
  · cases h
  · exact ⟨_, by assumption, h⟩
theorem rpt_k {c : Nat → Int32} {a : Nat} {t0 : List Bool} : ∀ {n : Nat} {t : List Bool} {k : Nat}, rpt c a n t0 = some t → k ≤ n → ∃ u, rpt c a k t0 = some u
  | 0, t, k, h, hk => by rw [show k = 0 by omega]; exact ⟨t, h⟩
  | n + 1, t, k, h, hk => by
    by_cases e : k = n + 1
    · rw [e]; exact ⟨t, h⟩
    · obtain ⟨u, hu, -⟩ := rpt_s h
      exact rpt_k hu (by omega)
/-- what a sign does to kinds it does to values -/
theorem ev1_mt {wd : Nat → Int64} {x : Int32} {s : List Int64} {u t : List Bool} (m : mtc s u) (h : rpt1 x u = some t) : mtc (ev1 wd x s) t ∧ (ev1 wd x s).length ≤ s.length + (if ¬ x < 0 then 1 else 0) ∧ (¬ ¬ x < 0 → x = -13 → ∃ y v, s = y :: v) ∧ (¬ ¬ x < 0 → ¬ x = -13 → ∃ y z v, s = y :: z :: v) := by
  unfold rpt1 at h
  unfold ev1
  by_cases c1 : ¬ x < 0
  · rw [if_pos c1] at h ⊢
    cases h
    rw [if_pos c1]
    exact ⟨⟨fun z => (by cases z), m⟩, Nat.le_refl _, fun z => absurd c1 z, fun z => absurd c1 z⟩
  · rw [if_neg c1] at h ⊢
    rw [if_neg c1]
    by_cases c2 : x = -13
    · rw [if_pos c2] at h ⊢
      match s, u, m, h with
      | y :: v, true :: u, m, h =>
        cases h
        refine ⟨⟨fun _ => ?_, m.2⟩, Nat.le_refl _, fun _ _ => ⟨y, v, rfl⟩, fun _ z => absurd c2 z⟩
        rcases m.1 rfl with e | e <;> rw [e] <;> decide
      | [], [], _, h => cases h
      | [], _ :: _, m, _ => exact m.elim
    · rw [if_neg c2] at h ⊢
      by_cases c3 : x = -11 ∨ x = -12
      · rw [if_pos c3] at h
        match s, u, m, h with
        | y :: z :: v, true :: true :: u, m, h =>
          cases h
          refine ⟨⟨fun _ => ?_, m.2.2⟩, by simp, fun _ q => absurd q c2, fun _ _ => ⟨y, z, v, rfl⟩⟩
          have q := tru_and (m.2.1 rfl) (m.1 rfl)
          rcases c3 with c3 | c3
          · subst c3; exact q.1
          · subst c3; exact q.2
        | [], [], _, h => cases h
        | [], _ :: _, m, _ => exact m.elim
        | [_], [], m, _ => exact m.elim
        | [_], [b], _, h => cases b <;> cases h
        | [_], _ :: _ :: _, m, _ => exact m.2.elim
      · rw [if_neg c3] at h
        match s, u, m, h with
        | y :: z :: v, b1 :: b2 :: u, m, h =>
          cases h
          refine ⟨⟨fun q => ?_, m.2.2⟩, by simp, fun _ q => absurd q c2, fun _ _ => ⟨y, z, v, rfl⟩⟩
          exact jnR_t _ _ (of_decide_eq_true q) (fun e => c3 (Or.inl e)) (fun e => c3 (Or.inr e))
        | [], [], _, h => cases h
        | [], _ :: _, m, _ => exact m.elim
        | [_], [], m, _ => exact m.elim
        | [_], [b], _, h => cases h
        | [_], _ :: _ :: _, m, _ => exact m.2.elim
theorem ev_mt {c : Nat → Int32} {wd : Nat → Int64} {a : Nat} : ∀ {n : Nat} {t : List Bool}, rpt c a n [] = some t → mtc (evR c wd a n) t ∧ (evR c wd a n).length ≤ fa_cnt (fun j => decide (¬ c j < 0)) (a + n)
  | 0, t, h => by cases h; exact ⟨trivial, Nat.zero_le _⟩
  | n + 1, t, h => by
    obtain ⟨u, h1, h2⟩ := rpt_s h
    obtain ⟨m1, m2⟩ := ev_mt (wd := wd) h1
    obtain ⟨q1, q2, -⟩ := ev1_mt (wd := wd) m1 h2
    refine ⟨q1, ?_⟩
    show (ev1 wd (c (a + n)) (evR c wd a n)).length ≤ fa_cnt _ (a + n + 1)
    by_cases z : ¬ c (a + n) < 0
    · rw [if_pos z] at q2
      rw [fa_cnt_yes (decide_eq_true z)]
      omega
    · rw [if_neg z] at q2
      rw [fa_cnt_no (decide_eq_false z)]
      omega
theorem fa_cnt_mono (p : Nat → Bool) : ∀ {a b : Nat}, a ≤ b → fa_cnt p a ≤ fa_cnt p b
  | a, 0, h => by rw [show a = 0 by omega]; exact Nat.le_refl _
  | a, b + 1, h => by
    by_cases e : a = b + 1
    · rw [e]; exact Nat.le_refl _
    · have := fa_cnt_mono p (show a ≤ b by omega)
      cases z : p b
      · rw [fa_cnt_no z]; exact this
      · rw [fa_cnt_yes z]; omega
/-- a stack as it lies in a row -/
def stk (g : Nat → Int64) : List Int64 → Prop
  | [] => True
  | x :: u => g u.length = x ∧ stk g u
theorem stk.up {g : Nat → Int64} : ∀ {u : List Int64} {k : Nat} {x : Int64}, stk g u → u.length ≤ k → stk (jx_up g k x) u
  | [], _, _, _, _ => trivial
  | y :: v, k, x, h, hk => by
    rw [List.length_cons] at hk
    exact ⟨by rw [jx_up_ne _ _ (by omega)]; exact h.1, h.2.up (by omega)⟩
theorem stk.ps {g : Nat → Int64} {u : List Int64} {x : Int64} (h : stk g u) : stk (jx_up g u.length x) (x :: u) := ⟨jx_up_self _ _ _, h.up (Nat.le_refl _)⟩
theorem wL_at (h : jx_H) (a k : Nat) (v : Int64) : (jx_wL h a k v).2.2.1 a = jx_up (h.2.2.1 a) k v := jx_row_self _ _ _
theorem wL_ne (h : jx_H) {a b : Nat} (k : Nat) (v : Int64) (hb : b ≠ a) : (jx_wL h a k v).2.2.1 b = h.2.2.1 b := jx_row_ne _ _ hb
/-- codes that can stand in a rule -/
def okC (x : Int32) : Prop := x < 0 ∨ ∃ v : Nat, v < 100012 ∧ x = nI v
theorem okw {x : Int32} (h : okC x) (h0 : ¬ x < 0) (h1 : ¬ x < 100000) : vp_in (x - 100000) 12 := by
  rcases h with h | ⟨v, hv, rfl⟩
  · exact absurd h h0
  · have : ¬ v < 100000 := fun z => h1 (nI_lt (b := 100000) z (by decide))
    rw [show (100000 : Int32) = nI 100000 from rfl, pk_sub (by omega)]
    exact vp_in_nI (by omega) (by decide)
theorem top1 (n : Nat) : nI n - 1 + 1 = nI n := by
  have := nI_pred n
  rw [← this, nI_succ]
  simp
theorem top2 (n : Nat) : nI (n + 1) - 1 = nI n := nI_pred n
theorem top3 (n : Nat) : nI (n + 2) - 1 + -1 = nI n := by rw [top2]; exact pk_m1 n
theorem top4 {n : Nat} (h : n < 60) : nI n - 1 < 59 := by
  rw [fa_lt]
  show (nI n - nI 1).toInt < 59
  rw [pk_sub_toInt (by omega) (by omega)]
  omega
set_option maxHeartbeats 2000000 in
theorem t_Ru_joined (d : Nat) {bc bs : Nat} {h : jx_H} (op : Int32) (a b : Int64) : jx_Tr (d + 1) bc bs 5006 [.int op, .long a, .long b] h (fun r h' => r = some (.long (jnR op a b)) ∧ h' = h) := by
  refine jx_tr jM_Ru_joined rfl rfl (lv := [some (.int op), some (.long a), none, some (.long b), none]) rfl ?_
  refine je_iload0 (pc := 0) d5006_0 rfl ?_
  by_cases s1_m12 : op = (-12)
  · refine je_table (pc := 1) 168 d5006_1 (by rw [s1_m12]; decide) (by rw [s1_m12]; decide) (off := 167) (by rw [s1_m12]; rfl) (by decide) ?_
    refine je_lload1 (pc := 168) d5006_168 rfl ?_
    refine je_lload3 (pc := 169) d5006_169 rfl ?_
    refine je_lor (pc := 170) d5006_170 ?_
    refine je_lret (pc := 171) d5006_171 rfl ?_
    exact ⟨by rw [jnR, if_pos s1_m12], rfl⟩
  by_cases s1_m11 : op = (-11)
  · refine je_table (pc := 1) 164 d5006_1 (by rw [s1_m11]; decide) (by rw [s1_m11]; decide) (off := 163) (by rw [s1_m11]; rfl) (by decide) ?_
    refine je_lload1 (pc := 164) d5006_164 rfl ?_
    refine je_lload3 (pc := 165) d5006_165 rfl ?_
    refine je_land (pc := 166) d5006_166 ?_
    refine je_lret (pc := 167) d5006_167 rfl ?_
    exact ⟨by rw [jnR, if_neg s1_m12, if_pos s1_m11], rfl⟩
  by_cases s1_m10 : op = (-10)
  · refine je_table (pc := 1) 152 d5006_1 (by rw [s1_m10]; decide) (by rw [s1_m10]; decide) (off := 151) (by rw [s1_m10]; rfl) (by decide) ?_
    refine je_lload1 (pc := 152) d5006_152 rfl ?_
    refine je_lload3 (pc := 153) d5006_153 rfl ?_
    refine je_lcmp (pc := 154) d5006_154 ?_
    refine ju_ifle (pc := 155) 162 d5006_155 (by decide) (fun c155 => ?_) (fun c155 => ?_)
    · refine je_lconst0 (pc := 162) d5006_162 ?_
      refine je_lret (pc := 163) d5006_163 rfl ?_
      exact ⟨by rw [jnR, if_neg s1_m12, if_neg s1_m11, if_pos s1_m10, if_neg (fun z => c155 ((lg_cmp_gt _ _).mpr z))], rfl⟩
    · refine je_lconst1 (pc := 158) d5006_158 ?_
      refine je_goto (pc := 159) 163 d5006_159 (by decide) ?_
      refine je_lret (pc := 163) d5006_163 rfl ?_
      exact ⟨by rw [jnR, if_neg s1_m12, if_neg s1_m11, if_pos s1_m10, if_pos ((lg_cmp_gt _ _).mp c155)], rfl⟩
  by_cases s1_m9 : op = (-9)
  · refine je_table (pc := 1) 140 d5006_1 (by rw [s1_m9]; decide) (by rw [s1_m9]; decide) (off := 139) (by rw [s1_m9]; rfl) (by decide) ?_
    refine je_lload1 (pc := 140) d5006_140 rfl ?_
    refine je_lload3 (pc := 141) d5006_141 rfl ?_
    refine je_lcmp (pc := 142) d5006_142 ?_
    refine je_iflt (pc := 143) 150 d5006_143 (by decide) (fun c143 => ?_) (fun c143 => ?_)
    · refine je_lconst0 (pc := 150) d5006_150 ?_
      refine je_lret (pc := 151) d5006_151 rfl ?_
      exact ⟨by rw [jnR, if_neg s1_m12, if_neg s1_m11, if_neg s1_m10, if_pos s1_m9, if_pos ((lg_cmp_lt _ _).mp c143)], rfl⟩
    · refine je_lconst1 (pc := 146) d5006_146 ?_
      refine je_goto (pc := 147) 151 d5006_147 (by decide) ?_
      refine je_lret (pc := 151) d5006_151 rfl ?_
      exact ⟨by rw [jnR, if_neg s1_m12, if_neg s1_m11, if_neg s1_m10, if_pos s1_m9, if_neg (fun z => c143 ((lg_cmp_lt _ _).mpr z))], rfl⟩
  by_cases s1_m8 : op = (-8)
  · refine je_table (pc := 1) 128 d5006_1 (by rw [s1_m8]; decide) (by rw [s1_m8]; decide) (off := 127) (by rw [s1_m8]; rfl) (by decide) ?_
    refine je_lload1 (pc := 128) d5006_128 rfl ?_
    refine je_lload3 (pc := 129) d5006_129 rfl ?_
    refine je_lcmp (pc := 130) d5006_130 ?_
    refine je_ifne (pc := 131) 138 d5006_131 (by decide) (fun c131 => ?_) (fun c131 => ?_)
    · refine je_lconst0 (pc := 138) d5006_138 ?_
      refine je_lret (pc := 139) d5006_139 rfl ?_
      exact ⟨by rw [jnR, if_neg s1_m12, if_neg s1_m11, if_neg s1_m10, if_neg s1_m9, if_pos s1_m8, if_neg (fun z => c131 ((lg_cmp_eq _ _).mpr z))], rfl⟩
    · refine je_lconst1 (pc := 134) d5006_134 ?_
      refine je_goto (pc := 135) 139 d5006_135 (by decide) ?_
      refine je_lret (pc := 139) d5006_139 rfl ?_
      exact ⟨by rw [jnR, if_neg s1_m12, if_neg s1_m11, if_neg s1_m10, if_neg s1_m9, if_pos s1_m8, if_pos ((lg_cmp_eq _ _).mp c131)], rfl⟩
  by_cases s1_m7 : op = (-7)
  · refine je_table (pc := 1) 116 d5006_1 (by rw [s1_m7]; decide) (by rw [s1_m7]; decide) (off := 115) (by rw [s1_m7]; rfl) (by decide) ?_
    refine je_lload1 (pc := 116) d5006_116 rfl ?_
    refine je_lload3 (pc := 117) d5006_117 rfl ?_
    refine je_lcmp (pc := 118) d5006_118 ?_
    refine je_ifgt (pc := 119) 126 d5006_119 (by decide) (fun c119 => ?_) (fun c119 => ?_)
    · refine je_lconst0 (pc := 126) d5006_126 ?_
      refine je_lret (pc := 127) d5006_127 rfl ?_
      exact ⟨by rw [jnR, if_neg s1_m12, if_neg s1_m11, if_neg s1_m10, if_neg s1_m9, if_neg s1_m8, if_pos s1_m7, if_pos ((lg_cmp_gt _ _).mp c119)], rfl⟩
    · refine je_lconst1 (pc := 122) d5006_122 ?_
      refine je_goto (pc := 123) 127 d5006_123 (by decide) ?_
      refine je_lret (pc := 127) d5006_127 rfl ?_
      exact ⟨by rw [jnR, if_neg s1_m12, if_neg s1_m11, if_neg s1_m10, if_neg s1_m9, if_neg s1_m8, if_pos s1_m7, if_neg (fun z => c119 ((lg_cmp_gt _ _).mpr z))], rfl⟩
  by_cases s1_m6 : op = (-6)
  · refine je_table (pc := 1) 104 d5006_1 (by rw [s1_m6]; decide) (by rw [s1_m6]; decide) (off := 103) (by rw [s1_m6]; rfl) (by decide) ?_
    refine je_lload1 (pc := 104) d5006_104 rfl ?_
    refine je_lload3 (pc := 105) d5006_105 rfl ?_
    refine je_lcmp (pc := 106) d5006_106 ?_
    refine ju_ifge (pc := 107) 114 d5006_107 (by decide) (fun c107 => ?_) (fun c107 => ?_)
    · refine je_lconst0 (pc := 114) d5006_114 ?_
      refine je_lret (pc := 115) d5006_115 rfl ?_
      exact ⟨by rw [jnR, if_neg s1_m12, if_neg s1_m11, if_neg s1_m10, if_neg s1_m9, if_neg s1_m8, if_neg s1_m7, if_pos s1_m6, if_neg (fun z => c107 ((lg_cmp_lt _ _).mpr z))], rfl⟩
    · refine je_lconst1 (pc := 110) d5006_110 ?_
      refine je_goto (pc := 111) 115 d5006_111 (by decide) ?_
      refine je_lret (pc := 115) d5006_115 rfl ?_
      exact ⟨by rw [jnR, if_neg s1_m12, if_neg s1_m11, if_neg s1_m10, if_neg s1_m9, if_neg s1_m8, if_neg s1_m7, if_pos s1_m6, if_pos ((lg_cmp_lt _ _).mp c107)], rfl⟩
  by_cases s1_m5 : op = (-5)
  · refine je_table (pc := 1) 90 d5006_1 (by rw [s1_m5]; decide) (by rw [s1_m5]; decide) (off := 89) (by rw [s1_m5]; rfl) (by decide) ?_
    refine je_lload3 (pc := 90) d5006_90 rfl ?_
    refine je_lconst0 (pc := 91) d5006_91 ?_
    refine je_lcmp (pc := 92) d5006_92 ?_
    refine je_ifne (pc := 93) 100 d5006_93 (by decide) (fun c93 => ?_) (fun c93 => ?_)
    · refine je_lload1 (pc := 100) d5006_100 rfl ?_
      refine je_lload3 (pc := 101) d5006_101 rfl ?_
      refine je_lrem (pc := 102) d5006_102 (fun z => c93 ((lg_cmp_eq _ _).mpr z)) ?_
      refine je_lret (pc := 103) d5006_103 rfl ?_
      exact ⟨by rw [jnR, if_neg s1_m12, if_neg s1_m11, if_neg s1_m10, if_neg s1_m9, if_neg s1_m8, if_neg s1_m7, if_neg s1_m6, if_pos s1_m5, if_neg (fun z => c93 ((lg_cmp_eq _ _).mpr z))], rfl⟩
    · refine je_lconst0 (pc := 96) d5006_96 ?_
      refine je_goto (pc := 97) 103 d5006_97 (by decide) ?_
      refine je_lret (pc := 103) d5006_103 rfl ?_
      exact ⟨by rw [jnR, if_neg s1_m12, if_neg s1_m11, if_neg s1_m10, if_neg s1_m9, if_neg s1_m8, if_neg s1_m7, if_neg s1_m6, if_pos s1_m5, if_pos ((lg_cmp_eq _ _).mp c93)], rfl⟩
  by_cases s1_m4 : op = (-4)
  · refine je_table (pc := 1) 76 d5006_1 (by rw [s1_m4]; decide) (by rw [s1_m4]; decide) (off := 75) (by rw [s1_m4]; rfl) (by decide) ?_
    refine je_lload3 (pc := 76) d5006_76 rfl ?_
    refine je_lconst0 (pc := 77) d5006_77 ?_
    refine je_lcmp (pc := 78) d5006_78 ?_
    refine je_ifne (pc := 79) 86 d5006_79 (by decide) (fun c79 => ?_) (fun c79 => ?_)
    · refine je_lload1 (pc := 86) d5006_86 rfl ?_
      refine je_lload3 (pc := 87) d5006_87 rfl ?_
      refine je_ldiv (pc := 88) d5006_88 (fun z => c79 ((lg_cmp_eq _ _).mpr z)) ?_
      refine je_lret (pc := 89) d5006_89 rfl ?_
      exact ⟨by rw [jnR, if_neg s1_m12, if_neg s1_m11, if_neg s1_m10, if_neg s1_m9, if_neg s1_m8, if_neg s1_m7, if_neg s1_m6, if_neg s1_m5, if_pos s1_m4, if_neg (fun z => c79 ((lg_cmp_eq _ _).mpr z))], rfl⟩
    · refine je_lconst0 (pc := 82) d5006_82 ?_
      refine je_goto (pc := 83) 89 d5006_83 (by decide) ?_
      refine je_lret (pc := 89) d5006_89 rfl ?_
      exact ⟨by rw [jnR, if_neg s1_m12, if_neg s1_m11, if_neg s1_m10, if_neg s1_m9, if_neg s1_m8, if_neg s1_m7, if_neg s1_m6, if_neg s1_m5, if_pos s1_m4, if_pos ((lg_cmp_eq _ _).mp c79)], rfl⟩
  by_cases s1_m3 : op = (-3)
  · refine je_table (pc := 1) 72 d5006_1 (by rw [s1_m3]; decide) (by rw [s1_m3]; decide) (off := 71) (by rw [s1_m3]; rfl) (by decide) ?_
    refine je_lload1 (pc := 72) d5006_72 rfl ?_
    refine je_lload3 (pc := 73) d5006_73 rfl ?_
    refine je_lmul (pc := 74) d5006_74 ?_
    refine je_lret (pc := 75) d5006_75 rfl ?_
    exact ⟨by rw [jnR, if_neg s1_m12, if_neg s1_m11, if_neg s1_m10, if_neg s1_m9, if_neg s1_m8, if_neg s1_m7, if_neg s1_m6, if_neg s1_m5, if_neg s1_m4, if_pos s1_m3], rfl⟩
  by_cases s1_m2 : op = (-2)
  · refine je_table (pc := 1) 68 d5006_1 (by rw [s1_m2]; decide) (by rw [s1_m2]; decide) (off := 67) (by rw [s1_m2]; rfl) (by decide) ?_
    refine je_lload1 (pc := 68) d5006_68 rfl ?_
    refine je_lload3 (pc := 69) d5006_69 rfl ?_
    refine je_lsub (pc := 70) d5006_70 ?_
    refine je_lret (pc := 71) d5006_71 rfl ?_
    exact ⟨by rw [jnR, if_neg s1_m12, if_neg s1_m11, if_neg s1_m10, if_neg s1_m9, if_neg s1_m8, if_neg s1_m7, if_neg s1_m6, if_neg s1_m5, if_neg s1_m4, if_neg s1_m3, if_pos s1_m2], rfl⟩
  by_cases s1_m1 : op = (-1)
  · refine je_table (pc := 1) 64 d5006_1 (by rw [s1_m1]; decide) (by rw [s1_m1]; decide) (off := 63) (by rw [s1_m1]; rfl) (by decide) ?_
    refine je_lload1 (pc := 64) d5006_64 rfl ?_
    refine je_lload3 (pc := 65) d5006_65 rfl ?_
    refine je_ladd (pc := 66) d5006_66 ?_
    refine je_lret (pc := 67) d5006_67 rfl ?_
    exact ⟨by rw [jnR, if_neg s1_m12, if_neg s1_m11, if_neg s1_m10, if_neg s1_m9, if_neg s1_m8, if_neg s1_m7, if_neg s1_m6, if_neg s1_m5, if_neg s1_m4, if_neg s1_m3, if_neg s1_m2, if_pos s1_m1], rfl⟩
  have ns1_m12 := lv_neT s1_m12 (a := -12) rfl
  have ns1_m11 := lv_neT s1_m11 (a := -11) rfl
  have ns1_m10 := lv_neT s1_m10 (a := -10) rfl
  have ns1_m9 := lv_neT s1_m9 (a := -9) rfl
  have ns1_m8 := lv_neT s1_m8 (a := -8) rfl
  have ns1_m7 := lv_neT s1_m7 (a := -7) rfl
  have ns1_m6 := lv_neT s1_m6 (a := -6) rfl
  have ns1_m5 := lv_neT s1_m5 (a := -5) rfl
  have ns1_m4 := lv_neT s1_m4 (a := -4) rfl
  have ns1_m3 := lv_neT s1_m3 (a := -3) rfl
  have ns1_m2 := lv_neT s1_m2 (a := -2) rfl
  have ns1_m1 := lv_neT s1_m1 (a := -1) rfl
  refine je_tableO (pc := 1) 172 d5006_1 (by omega) (by decide) ?_
  refine je_lconst0 (pc := 172) d5006_172 ?_
  refine je_lret (pc := 173) d5006_173 rfl ?_
  exact ⟨by rw [jnR, if_neg s1_m12, if_neg s1_m11, if_neg s1_m10, if_neg s1_m9, if_neg s1_m8, if_neg s1_m7, if_neg s1_m6, if_neg s1_m5, if_neg s1_m4, if_neg s1_m3, if_neg s1_m2, if_neg s1_m1], rfl⟩
set_option maxHeartbeats 2000000 in
theorem t_Ru_result (d : Nat) {bc bs : Nat} {h : jx_H} {ra wa a n m : Nat} {c : Nat → Int32} {t : Bool} (R : jx_Rl h ra) (Wa : h.1[wa]? = some (.inl (2, 12))) (hne : wa ≠ ra + 5) (hc : ∀ j, j < m → h.2.1 (ra + 1) j = c j) (hm : m ≤ 253) (hn : a + n ≤ m) (hp : fa_cnt (fun j => decide (¬ c j < 0)) m ≤ 60) (ho : ∀ j, j < m → okC (c j)) (ht : rpt c a n [] = some [t]) : jx_Tr (d + 2) bc bs 5005 [.ref ra, .int (nI a), .int (nI (a + n)), .ref wa] h (fun r h' => r = some (.long ((evR c (h.2.2.1 wa) a n).headD 0)) ∧ fC (fun _ => False) h h' ∧ ∀ b, b ≠ ra + 5 → h'.2.2.1 b = h.2.2.1 b) := by
  refine jx_tr jM_Ru_result rfl rfl (lv := [some (.ref ra), some (.int (nI a)), some (.int (nI (a + n))), some (.ref wa), none, none, none]) rfl ?_
  refine je_iconst (pc := 0) (v := -1) d5005_0 rfl ?_
  refine ju_eqi (v := nI 0 - 1) (by decide) ?_
  refine ju_istore (pc := 1) (lv' := [some _, some _, some _, some _, some _, none, none]) d5005_1 rfl rfl ?_
  refine je_iload1 (pc := 3) d5005_3 rfl ?_
  refine ju_istore (pc := 4) (lv' := [some _, some _, some _, some _, some _, some _, none]) d5005_4 rfl rfl ?_
  refine je_loop (σ := Option Value) (n) (fun k xx => [some (.ref ra), some (.int (nI a)), some (.int (nI (a + n))), some (.ref wa), some (.int (nI (evR c (h.2.2.1 wa) a k).length - 1)), some (.int (nI (a + k))), xx]) (fun k _ h' => fC (fun _ => False) h h' ∧ (∀ b, b ≠ ra + 5 → h'.2.2.1 b = h.2.2.1 b) ∧ stk (h'.2.2.1 (ra + 5)) (evR c (h.2.2.1 wa) a k)) (fun k xx h' hk e kk => ?_) (fun xx h' e => ?_) (0) none h (by omega) ⟨fC.rf, fun _ _ => rfl, trivial⟩
  · obtain ⟨e1, e2, e3⟩ := e
    have R1 := e1.Rl R
    have Wa1 : h'.1[wa]? = some (.inl (2, 12)) := by rw [e1.1.1]; exact Wa
    obtain ⟨u, hu⟩ := rpt_k (k := k) ht (by omega)
    obtain ⟨u2, hu2⟩ := rpt_k (k := k + 1) ht (by omega)
    obtain ⟨u', hu', hx'⟩ := rpt_s hu2
    obtain ⟨m1, m2⟩ := ev_mt (wd := h.2.2.1 wa) hu
    obtain rfl : u' = u := Option.some.inj (hu'.symm.trans hu)
    obtain ⟨-, -, m3, m4⟩ := ev1_mt (wd := h.2.2.1 wa) m1 hx'
    have m5 := fa_cnt_mono (fun j => decide (¬ c j < 0)) (show a + k + 1 ≤ m by omega)
    have m6 := fa_cnt_mono (fun j => decide (¬ c j < 0)) (show a + k ≤ m by omega)
    have es : evR c (h.2.2.1 wa) a (k + 1) = ev1 (h.2.2.1 wa) (c (a + k)) (evR c (h.2.2.1 wa) a k) := rfl
    have oc := ho (a + k) (by omega)
    refine je_iload (pc := 6) d5005_6 rfl ?_
    refine je_iload2 (pc := 8) d5005_8 rfl ?_
    refine ju_icge (pc := 9) 145 d5005_9 (by decide) (fun c9 => absurd c9 (fun z => z (nI_lt (by omega) (by omega)))) (fun c9 => ?_)
    refine je_aload0 (pc := 12) d5005_12 rfl ?_
    refine ju_getr (pc := 13) (b := (ra + 1)) d5005_13 jF_5_9 rfl R1.1 R1.2.1.2 ?_
    refine je_iload (pc := 16) d5005_16 rfl ?_
    refine ju_iald (pc := 18) (jn := (a + k)) d5005_18 R1.2.1.1 (vp_in_nI (by omega) (by decide)) (nI_clamp (by omega)) ?_
    refine ju_eqi (v := c (a + k)) (by rw [e1.2 _ (fun z => z)]; exact hc _ (by omega)) ?_
    refine ju_istore (pc := 19) (lv' := [some _, some _, some _, some _, some _, some _, some _]) d5005_19 rfl rfl ?_
    refine je_iload (pc := 21) d5005_21 rfl ?_
    refine je_iflt (pc := 23) 66 d5005_23 (by decide) (fun c23 => ?_) (fun c23 => ?_)
    · refine je_iload (pc := 66) d5005_66 rfl ?_
      refine je_bipush (pc := 68) (v := -13) d5005_68 rfl ?_
      refine je_icne (pc := 70) 97 d5005_70 (by decide) (fun c70 => ?_) (fun c70 => ?_)
      · obtain ⟨y, z, v, hst⟩ := m4 (fun z => z c23) c70
        have hl : v.length < 59 := by rw [hst, List.length_cons, List.length_cons] at m2; omega
        refine je_iload (pc := 97) d5005_97 rfl ?_
        refine ju_ifge (pc := 99) 139 d5005_99 (by decide) (fun c99 => absurd c99 (fun z => z c23)) (fun c99 => ?_)
        refine je_iload (pc := 102) d5005_102 rfl ?_
        refine je_iconst (pc := 104) (v := 1) d5005_104 rfl ?_
        refine je_iclt (pc := 105) 139 d5005_105 (by decide) (fun c105 => absurd c105 (by rw [hst, List.length_cons, top2]; exact nI_nlt (b := 1) (by rw [List.length_cons]; omega) (by rw [List.length_cons]; omega))) (fun c105 => ?_)
        refine ju_inc (pc := 108) (y := -1) (lv' := [some _, some _, some _, some _, some _, some _, some _]) d5005_108 rfl rfl rfl ?_
        refine je_aload0 (pc := 111) d5005_111 rfl ?_
        refine ju_getr (pc := 112) (b := (ra + 5)) d5005_112 jF_5_24 rfl R1.1 R1.2.2.2.2.2.2 ?_
        refine je_iload (pc := 115) d5005_115 rfl ?_
        refine je_iload (pc := 117) d5005_117 rfl ?_
        refine je_aload0 (pc := 119) d5005_119 rfl ?_
        refine ju_getr (pc := 120) (b := (ra + 5)) d5005_120 jF_5_24 rfl R1.1 R1.2.2.2.2.2.2 ?_
        refine je_iload (pc := 123) d5005_123 rfl ?_
        refine ju_lald (pc := 125) (jn := v.length) d5005_125 R1.2.2.2.2.2.1 (by rw [hst, List.length_cons, List.length_cons, top3]; exact vp_in_nI (by omega) (by decide)) (by rw [hst, List.length_cons, List.length_cons, top3]; exact nI_clamp (by omega)) ?_
        refine je_aload0 (pc := 126) d5005_126 rfl ?_
        refine ju_getr (pc := 127) (b := (ra + 5)) d5005_127 jF_5_24 rfl R1.1 R1.2.2.2.2.2.2 ?_
        refine je_iload (pc := 130) d5005_130 rfl ?_
        refine je_iconst (pc := 132) (v := 1) d5005_132 rfl ?_
        refine je_iadd (pc := 133) d5005_133 ?_
        refine ju_lald (pc := 134) (jn := v.length + 1) d5005_134 R1.2.2.2.2.2.1 (by rw [hst, List.length_cons, List.length_cons, top3, nI_1]; exact vp_in_nI (by omega) (by decide)) (by rw [hst, List.length_cons, List.length_cons, top3, nI_1]; exact nI_clamp (by omega)) ?_
        refine ju_calls (pc := 135) (as := [_, _, _]) d5005_135 jL_5_53 jM_Ru_joined rfl rfl (by exact Nat.le_of_ble_eq_true rfl) (t_Ru_joined (d + 0) _ _ _) (fun r135 h135 q135 => ?_)
        obtain ⟨rfl, e135⟩ := q135
        obtain rfl := e135.symm
        refine ju_last (pc := 138) (jn := v.length) d5005_138 R1.2.2.2.2.2.1 (by rw [hst, List.length_cons, List.length_cons, top3]; exact vp_in_nI (by omega) (by decide)) (by rw [hst, List.length_cons, List.length_cons, top3]; exact nI_clamp (by omega)) ?_
        refine ju_inc (pc := 139) (y := 1) (lv' := [some _, some _, some _, some _, some _, some _, some _]) d5005_139 rfl rfl rfl ?_
        refine je_goto (pc := 142) 6 d5005_142 (by decide) ?_
        have e5 : evR c (h.2.2.1 wa) a (k + 1) = jnR (c (a + k)) z y :: v := by rw [es]; unfold ev1; rw [if_neg (fun z => z c23), if_neg c70, hst]
        rw [nI_1 (a + k), show nI (evR c (h.2.2.1 wa) a k).length - 1 + -1 = nI (evR c (h.2.2.1 wa) a (k + 1)).length - 1 by rw [e5, hst, List.length_cons, List.length_cons, List.length_cons, top3, top2]]
        refine kk (some _) _ ⟨e1.wL, fun b hb => (wL_ne _ _ _ hb).trans (e2 b hb), ?_⟩
        rw [hst] at e3
        have e6 : h'.2.2.1 (ra + 5) (v.length + 1) = y := e3.1
        rw [wL_at, e5, e6, e3.2.1]
        exact e3.2.2.ps
      · obtain ⟨y, v, hst⟩ := m3 (fun z => z c23) c70
        have hl : v.length < 60 := by rw [hst, List.length_cons] at m2; omega
        refine je_iload (pc := 73) d5005_73 rfl ?_
        refine je_iflt (pc := 75) 97 d5005_75 (by decide) (fun c75 => absurd c75 (by rw [hst, List.length_cons, top2]; exact nI_pos (by omega))) (fun c75 => ?_)
        refine je_aload0 (pc := 78) d5005_78 rfl ?_
        refine ju_getr (pc := 79) (b := (ra + 5)) d5005_79 jF_5_24 rfl R1.1 R1.2.2.2.2.2.2 ?_
        refine je_iload (pc := 82) d5005_82 rfl ?_
        refine je_lconst1 (pc := 84) d5005_84 ?_
        refine je_aload0 (pc := 85) d5005_85 rfl ?_
        refine ju_getr (pc := 86) (b := (ra + 5)) d5005_86 jF_5_24 rfl R1.1 R1.2.2.2.2.2.2 ?_
        refine je_iload (pc := 89) d5005_89 rfl ?_
        refine ju_lald (pc := 91) (jn := v.length) d5005_91 R1.2.2.2.2.2.1 (by rw [hst, List.length_cons, top2]; exact vp_in_nI (by omega) (by decide)) (by rw [hst, List.length_cons, top2]; exact nI_clamp (by omega)) ?_
        refine je_lsub (pc := 92) d5005_92 ?_
        refine ju_last (pc := 93) (jn := v.length) d5005_93 R1.2.2.2.2.2.1 (by rw [hst, List.length_cons, top2]; exact vp_in_nI (by omega) (by decide)) (by rw [hst, List.length_cons, top2]; exact nI_clamp (by omega)) ?_
        refine je_goto (pc := 94) 139 d5005_94 (by decide) ?_
        refine ju_inc (pc := 139) (y := 1) (lv' := [some _, some _, some _, some _, some _, some _, some _]) d5005_139 rfl rfl rfl ?_
        refine je_goto (pc := 142) 6 d5005_142 (by decide) ?_
        have e5 : evR c (h.2.2.1 wa) a (k + 1) = (1 - y) :: v := by rw [es]; unfold ev1; rw [if_neg (fun z => z c23), if_pos c70, hst]
        rw [nI_1 (a + k), show (evR c (h.2.2.1 wa) a k).length = (evR c (h.2.2.1 wa) a (k + 1)).length by rw [e5, hst]; rfl]
        refine kk (some _) _ ⟨e1.wL, fun b hb => (wL_ne _ _ _ hb).trans (e2 b hb), ?_⟩
        rw [hst] at e3
        rw [wL_at, e5, e3.1]
        exact e3.2.ps
    · have m7 : (evR c (h.2.2.1 wa) a k).length < 60 := by
        rw [fa_cnt_yes (decide_eq_true c23)] at m5
        omega
      refine je_iload (pc := 26) d5005_26 rfl ?_
      refine je_bipush (pc := 28) (v := 59) d5005_28 rfl ?_
      refine ju_icge (pc := 30) 66 d5005_30 (by decide) (fun c30 => absurd c30 (fun z => z (top4 m7))) (fun c30 => ?_)
      refine ju_inc (pc := 33) (y := 1) (lv' := [some _, some _, some _, some _, some _, some _, some _]) d5005_33 rfl rfl rfl ?_
      refine je_aload0 (pc := 36) d5005_36 rfl ?_
      refine ju_getr (pc := 37) (b := (ra + 5)) d5005_37 jF_5_24 rfl R1.1 R1.2.2.2.2.2.2 ?_
      refine je_iload (pc := 40) d5005_40 rfl ?_
      refine je_iload (pc := 42) d5005_42 rfl ?_
      refine je_ldc (pc := 44) d5005_44 jK_5_52 ?_
      refine ju_icge (pc := 46) 55 d5005_46 (by decide) (fun c46 => ?_) (fun c46 => ?_)
      · refine je_aload3 (pc := 55) d5005_55 rfl ?_
        refine je_iload (pc := 56) d5005_56 rfl ?_
        refine je_ldc (pc := 58) d5005_58 jK_5_52 ?_
        refine je_isub (pc := 60) d5005_60 ?_
        refine ju_lald (pc := 61) (jn := (c (a + k) - 100000).toNatClampNeg) d5005_61 Wa1 (okw oc c23 c46) rfl ?_
        refine ju_last (pc := 62) (jn := (evR c (h.2.2.1 wa) a k).length) d5005_62 R1.2.2.2.2.2.1 (by rw [top1]; exact vp_in_nI (by omega) (by decide)) (by rw [top1]; exact nI_clamp (by omega)) ?_
        refine je_goto (pc := 63) 139 d5005_63 (by decide) ?_
        refine ju_inc (pc := 139) (y := 1) (lv' := [some _, some _, some _, some _, some _, some _, some _]) d5005_139 rfl rfl rfl ?_
        refine je_goto (pc := 142) 6 d5005_142 (by decide) ?_
        have e5 : evR c (h.2.2.1 wa) a (k + 1) = h.2.2.1 wa (c (a + k) - 100000).toNatClampNeg :: evR c (h.2.2.1 wa) a k := by rw [es]; unfold ev1; rw [if_pos c23, if_neg c46]
        rw [nI_1 (a + k), show nI (evR c (h.2.2.1 wa) a k).length - 1 + 1 = nI (evR c (h.2.2.1 wa) a (k + 1)).length - 1 by rw [e5, List.length_cons, top2, top1]]
        refine kk (some _) _ ⟨e1.wL, fun b hb => (wL_ne _ _ _ hb).trans (e2 b hb), ?_⟩
        rw [wL_at, e5, e2 wa hne]
        exact e3.ps
      · refine je_iload (pc := 49) d5005_49 rfl ?_
        refine je_i2l (pc := 51) d5005_51 ?_
        refine je_goto (pc := 52) 62 d5005_52 (by decide) ?_
        refine ju_last (pc := 62) (jn := (evR c (h.2.2.1 wa) a k).length) d5005_62 R1.2.2.2.2.2.1 (by rw [top1]; exact vp_in_nI (by omega) (by decide)) (by rw [top1]; exact nI_clamp (by omega)) ?_
        refine je_goto (pc := 63) 139 d5005_63 (by decide) ?_
        refine ju_inc (pc := 139) (y := 1) (lv' := [some _, some _, some _, some _, some _, some _, some _]) d5005_139 rfl rfl rfl ?_
        refine je_goto (pc := 142) 6 d5005_142 (by decide) ?_
        have e5 : evR c (h.2.2.1 wa) a (k + 1) = (c (a + k)).toInt64 :: evR c (h.2.2.1 wa) a k := by rw [es]; unfold ev1; rw [if_pos c23, if_pos c46]
        rw [nI_1 (a + k), show nI (evR c (h.2.2.1 wa) a k).length - 1 + 1 = nI (evR c (h.2.2.1 wa) a (k + 1)).length - 1 by rw [e5, List.length_cons, top2, top1]]
        refine kk (some _) _ ⟨e1.wL, fun b hb => (wL_ne _ _ _ hb).trans (e2 b hb), ?_⟩
        rw [wL_at, e5]
        exact e3.ps
  · obtain ⟨e1, e2, e3⟩ := e
    have R1 := e1.Rl R
    have Wa1 : h'.1[wa]? = some (.inl (2, 12)) := by rw [e1.1.1]; exact Wa
    refine je_iload (pc := 6) d5005_6 rfl ?_
    refine je_iload2 (pc := 8) d5005_8 rfl ?_
    refine ju_icge (pc := 9) 145 d5005_9 (by decide) (fun c9 => ?_) (fun c9 => absurd c9 (nI_nlt (Nat.le_refl _) (by omega)))
    obtain ⟨m1, -⟩ := ev_mt (wd := h.2.2.1 wa) ht
    obtain ⟨y, hst⟩ : ∃ y, evR c (h.2.2.1 wa) a n = [y] := by
      match evR c (h.2.2.1 wa) a n, m1 with
      | [y], _ => exact ⟨y, rfl⟩
    rw [hst] at e3
    refine je_aload0 (pc := 145) d5005_145 rfl ?_
    refine ju_getr (pc := 146) (b := (ra + 5)) d5005_146 jF_5_24 rfl R1.1 R1.2.2.2.2.2.2 ?_
    refine je_iconst (pc := 149) (v := 0) d5005_149 rfl ?_
    refine ju_lald (pc := 150) (jn := 0) d5005_150 R1.2.2.2.2.2.1 (by first | assumption | exact jx_ok_dec (by decide)) (by decide) ?_
    refine je_lret (pc := 151) d5005_151 rfl ?_
    exact ⟨by rw [hst]; exact congrArg (fun x => some (Value.long x)) e3.1, e1, e2⟩
/-- the first clause that holds, from c on: its sum -/
def crL (r : MR) (wd : Nat → Int64) : Nat → Nat → Int64
  | 0, _ => 0
  | f + 1, c => if r.2.2.2.1 c = r.2.2.2.2 c ∨ ¬ (evR r.2.1 wd (r.2.2.2.1 c) (r.2.2.2.2 c - r.2.2.2.1 c)).headD 0 = 0 then (evR r.2.1 wd (r.2.2.1 c) (r.2.2.2.1 c - r.2.2.1 c)).headD 0 else crL r wd f (c + 1)
def hold3 (v : Int64) : Int32 := (if (if v < 3 then v else 3) < -3 then -3 else (if v < 3 then v else 3)).toInt32
theorem mR_ok {I : Nat → Nat → Int32} {k : Nat} {r : MR} (m : mRu I k r) : ∀ j, j < r.1.2 → okC (r.2.1 j) := by
  intro j hj
  obtain ⟨h1, h2⟩ := m.2.1 j hj
  rw [← h2]
  unfold okS at h1
  rcases h1 with ⟨h, n, hn, e⟩ | ⟨h, n, hn, e⟩ | h
  · rw [h, e]
    exact Or.inr ⟨n, by omega, rfl⟩
  · rw [h, e]
    refine Or.inr ⟨100000 + n, by omega, ?_⟩
    rw [← nI_add]; rfl
  · left
    generalize I 282 (300 * k + j) = v
    rcases h with h | h | h | h | h | h | h | h | h | h | h | h | h <;> rw [h] <;> first | exact (by decide : (-1 : Int32) < 0) | exact (by decide : (-2 : Int32) < 0) | exact (by decide : (-3 : Int32) < 0) | exact (by decide : (-4 : Int32) < 0) | exact (by decide : (-5 : Int32) < 0) | exact (by decide : (-6 : Int32) < 0) | exact (by decide : (-7 : Int32) < 0) | exact (by decide : (-8 : Int32) < 0) | exact (by decide : (-9 : Int32) < 0) | exact (by decide : (-10 : Int32) < 0) | exact (by decide : (-11 : Int32) < 0) | exact (by decide : (-12 : Int32) < 0) | exact (by decide : (-13 : Int32) < 0)
set_option maxHeartbeats 2000000 in
theorem ru_sum {d bc bs : Nat} {h h' : jx_H} {ra wa : Nat} {r : MR} (R : jx_Rl h ra) (Wa : h.1[wa]? = some (.inl (2, 12))) (hne : wa ≠ ra + 5) (hr : rR h.2.1 ra r) (wf : wfR r) (ho : ∀ j, j < r.1.2 → okC (r.2.1 j)) (e1 : fC (fun _ => False) h h') (e2 : ∀ b, b ≠ ra + 5 → h'.2.2.1 b = h.2.2.1 b) {k : Nat} (hk : k < r.1.1) (x3 : Int32) : jx_Ev (d + 3) bc bs 5004 57 [some (.ref ra), some (.ref wa), some (.int (nI k)), some (.int x3), none, none] [] h' (fun r' h' => r' = some (.int (hold3 ((evR r.2.1 (h.2.2.1 wa) (r.2.2.1 k) (r.2.2.2.1 k - r.2.2.1 k)).headD 0))) ∧ fC (fun _ => False) h h' ∧ ∀ b, b ≠ ra + 5 → h'.2.2.1 b = h.2.2.1 b) := by
  have R1 := e1.Rl R
  have Wa1 : h'.1[wa]? = some (.inl (2, 12)) := by rw [e1.1.1]; exact Wa
  obtain ⟨w1, w2, w3, w4, -⟩ := wf.2.2.2 k hk
  obtain ⟨c1, c2, c3⟩ := hr.2.2.2 k hk
  have k12 : k < 12 := by have := wf.1; omega
  have w5 := wf.2.1
  have es : h'.2.1 (ra + 2) k = nI (r.2.2.1 k) := by rw [e1.2 _ (fun z => z)]; exact c1
  have et : h'.2.1 (ra + 3) k = nI (r.2.2.1 k + (r.2.2.2.1 k - r.2.2.1 k)) := by rw [e1.2 _ (fun z => z), show r.2.2.1 k + (r.2.2.2.1 k - r.2.2.1 k) = r.2.2.2.1 k by omega]; exact c2
  refine je_aload0 (pc := 57) d5004_57 rfl ?_
  refine je_aload0 (pc := 58) d5004_58 rfl ?_
  refine ju_getr (pc := 59) (b := (ra + 2)) d5004_59 jF_5_15 rfl R1.1 R1.2.2.1.2 ?_
  refine je_iload2 (pc := 62) d5004_62 rfl ?_
  refine ju_iald (pc := 63) (jn := (k)) d5004_63 R1.2.2.1.1 (vp_in_nI (by omega) (by decide)) (nI_clamp (by omega)) ?_
  refine ju_eqi (v := nI (r.2.2.1 k)) es ?_
  refine je_aload0 (pc := 64) d5004_64 rfl ?_
  refine ju_getr (pc := 65) (b := (ra + 3)) d5004_65 jF_5_18 rfl R1.1 R1.2.2.2.1.2 ?_
  refine je_iload2 (pc := 68) d5004_68 rfl ?_
  refine ju_iald (pc := 69) (jn := (k)) d5004_69 R1.2.2.2.1.1 (vp_in_nI (by omega) (by decide)) (nI_clamp (by omega)) ?_
  refine ju_eqi (v := nI (r.2.2.1 k + (r.2.2.2.1 k - r.2.2.1 k))) et ?_
  refine je_aload1 (pc := 70) d5004_70 rfl ?_
  refine ju_callv (pc := 71) (as := [_, _, _]) d5004_71 jL_5_35 jM_Ru_result rfl (by decide) R1.1 rfl (by exact Nat.le_of_ble_eq_true rfl) (t_Ru_result d (a := r.2.2.1 k) (n := r.2.2.2.1 k - r.2.2.1 k) (m := r.1.2) (c := r.2.1) R1 Wa1 hne (fun j hj => by rw [e1.2 _ (fun z => z)]; exact hr.2.2.1 j hj) wf.2.1 (by omega) wf.2.2.1 ho w4) (fun r71 h71 q71 => ?_)
  obtain ⟨rfl, f1, f2⟩ := q71
  have R2 := f1.Rl R1
  have Wa2 : h71.1[wa]? = some (.inl (2, 12)) := by rw [f1.1.1]; exact Wa1
  have g1 := e1.tr f1
  have g2 : ∀ b, b ≠ ra + 5 → h71.2.2.1 b = h.2.2.1 b := fun b hb => (f2 b hb).trans (e2 b hb)
  rw [e2 wa hne]
  refine ju_lstore (pc := 74) (lv' := [some _, some _, some _, some _, some _, none]) d5004_74 rfl rfl ?_
  refine je_ldc2 (pc := 76) d5004_76 jK_5_39 ?_
  refine je_ldc2 (pc := 79) d5004_79 jK_5_41 ?_
  refine je_lload (pc := 82) d5004_82 rfl ?_
  refine je_mminl (pc := 84) d5004_84 jLm_5_43 (by exact Nat.le_of_ble_eq_true rfl) ?_
  refine je_mmaxl (pc := 87) d5004_87 jLm_5_49 (by exact Nat.le_of_ble_eq_true rfl) ?_
  refine je_l2i (pc := 90) d5004_90 ?_
  refine je_iret (pc := 91) d5004_91 rfl ?_
  exact ⟨rfl, g1, g2⟩
set_option maxHeartbeats 2000000 in
theorem t_Ru_feet (d : Nat) {bc bs : Nat} {h : jx_H} {ra wa : Nat} {r : MR} (R : jx_Rl h ra) (Wa : h.1[wa]? = some (.inl (2, 12))) (hne : wa ≠ ra + 5) (hr : rR h.2.1 ra r) (wf : wfR r) (ho : ∀ j, j < r.1.2 → okC (r.2.1 j)) : jx_Tr (d + 3) bc bs 5004 [.ref ra, .ref wa] h (fun r' h' => r' = some (.int (hold3 (crL r (h.2.2.1 wa) r.1.1 0))) ∧ fC (fun _ => False) h h' ∧ ∀ b, b ≠ ra + 5 → h'.2.2.1 b = h.2.2.1 b) := by
  refine jx_tr jM_Ru_feet rfl rfl (lv := [some (.ref ra), some (.ref wa), none, none, none, none]) rfl ?_
  refine je_iconst (pc := 0) (v := 0) d5004_0 rfl ?_
  refine ju_istore2 (pc := 1) (lv' := [some _, some _, some _, none, none, none]) d5004_1 rfl rfl ?_
  refine je_loop (σ := Option Value) (r.1.1) (fun k xx => [some (.ref ra), some (.ref wa), some (.int (nI k)), xx, none, none]) (fun k _ h' => fC (fun _ => False) h h' ∧ (∀ b, b ≠ ra + 5 → h'.2.2.1 b = h.2.2.1 b) ∧ crL r (h.2.2.1 wa) (r.1.1 - k) k = crL r (h.2.2.1 wa) r.1.1 0) (fun k xx h' hk e kk => ?_) (fun xx h' e => ?_) (0) none h (by omega) ⟨fC.rf, fun _ _ => rfl, rfl⟩
  · obtain ⟨e1, e2, e3⟩ := e
    have R1 := e1.Rl R
    have Wa1 : h'.1[wa]? = some (.inl (2, 12)) := by rw [e1.1.1]; exact Wa
    have n0 : h'.2.1 ra 5 = nI r.1.1 := by rw [e1.2 _ (fun z => z)]; exact hr.2.1
    have w0 := wf.1
    have w5 := wf.2.1
    obtain ⟨w1, w2, w3, w4, w6⟩ := wf.2.2.2 k hk
    obtain ⟨c1, c2, c3⟩ := hr.2.2.2 k hk
    have et : h'.2.1 (ra + 3) k = nI (r.2.2.2.1 k) := by rw [e1.2 _ (fun z => z)]; exact c2
    have ee : h'.2.1 (ra + 4) k = nI (r.2.2.2.2 k) := by rw [e1.2 _ (fun z => z)]; exact c3
    have ee2 : h'.2.1 (ra + 4) k = nI (r.2.2.2.1 k + (r.2.2.2.2 k - r.2.2.2.1 k)) := by rw [ee, show r.2.2.2.1 k + (r.2.2.2.2 k - r.2.2.2.1 k) = r.2.2.2.2 k by omega]
    rw [show r.1.1 - k = (r.1.1 - (k + 1)) + 1 by omega, crL] at e3
    refine je_iload2 (pc := 2) d5004_2 rfl ?_
    refine je_aload0 (pc := 3) d5004_3 rfl ?_
    refine ju_geti (pc := 4) d5004_4 jF_5_32 rfl R1.1 ?_
    refine ju_icge (pc := 7) 98 d5004_7 (by decide) (fun c7 => absurd c7 (by rw [n0]; exact fun z => z (nI_lt hk (by omega)))) (fun c7 => ?_)
    refine je_aload0 (pc := 10) d5004_10 rfl ?_
    refine ju_getr (pc := 11) (b := (ra + 3)) d5004_11 jF_5_18 rfl R1.1 R1.2.2.2.1.2 ?_
    refine je_iload2 (pc := 14) d5004_14 rfl ?_
    refine ju_iald (pc := 15) (jn := (k)) d5004_15 R1.2.2.2.1.1 (vp_in_nI (by omega) (by decide)) (nI_clamp (by omega)) ?_
    refine ju_eqi (v := nI (r.2.2.2.1 k)) et ?_
    refine je_aload0 (pc := 16) d5004_16 rfl ?_
    refine ju_getr (pc := 17) (b := (ra + 4)) d5004_17 jF_5_21 rfl R1.1 R1.2.2.2.2.1.2 ?_
    refine je_iload2 (pc := 20) d5004_20 rfl ?_
    refine ju_iald (pc := 21) (jn := (k)) d5004_21 R1.2.2.2.2.1.1 (vp_in_nI (by omega) (by decide)) (nI_clamp (by omega)) ?_
    refine ju_eqi (v := nI (r.2.2.2.2 k)) ee ?_
    refine je_icne (pc := 22) 29 d5004_22 (by decide) (fun c22 => ?_) (fun c22 => ?_)
    · refine je_iconst (pc := 29) (v := 0) d5004_29 rfl ?_
      refine ju_istore3 (pc := 30) (lv' := [some _, some _, some _, some _, none, none]) d5004_30 rfl rfl ?_
      refine je_iload3 (pc := 31) d5004_31 rfl ?_
      refine je_ifne (pc := 32) 57 d5004_32 (by decide) (fun c32 => ?_) (fun c32 => ?_)
      · exact absurd rfl c32
      · have nt : ¬ r.2.2.2.1 k = r.2.2.2.2 k := fun z => c22 (by rw [z])
        obtain w7 := w6.resolve_left nt
        refine je_aload0 (pc := 35) d5004_35 rfl ?_
        refine je_aload0 (pc := 36) d5004_36 rfl ?_
        refine ju_getr (pc := 37) (b := (ra + 3)) d5004_37 jF_5_18 rfl R1.1 R1.2.2.2.1.2 ?_
        refine je_iload2 (pc := 40) d5004_40 rfl ?_
        refine ju_iald (pc := 41) (jn := (k)) d5004_41 R1.2.2.2.1.1 (vp_in_nI (by omega) (by decide)) (nI_clamp (by omega)) ?_
        refine ju_eqi (v := nI (r.2.2.2.1 k)) et ?_
        refine je_aload0 (pc := 42) d5004_42 rfl ?_
        refine ju_getr (pc := 43) (b := (ra + 4)) d5004_43 jF_5_21 rfl R1.1 R1.2.2.2.2.1.2 ?_
        refine je_iload2 (pc := 46) d5004_46 rfl ?_
        refine ju_iald (pc := 47) (jn := (k)) d5004_47 R1.2.2.2.2.1.1 (vp_in_nI (by omega) (by decide)) (nI_clamp (by omega)) ?_
        refine ju_eqi (v := nI (r.2.2.2.1 k + (r.2.2.2.2 k - r.2.2.2.1 k))) ee2 ?_
        refine je_aload1 (pc := 48) d5004_48 rfl ?_
        refine ju_callv (pc := 49) (as := [_, _, _]) d5004_49 jL_5_35 jM_Ru_result rfl (by decide) R1.1 rfl (by exact Nat.le_of_ble_eq_true rfl) (t_Ru_result d (a := r.2.2.2.1 k) (n := r.2.2.2.2 k - r.2.2.2.1 k) (m := r.1.2) (c := r.2.1) R1 Wa1 hne (fun j hj => by rw [e1.2 _ (fun z => z)]; exact hr.2.2.1 j hj) wf.2.1 (by omega) wf.2.2.1 ho w7) (fun r49 h49 q49 => ?_)
        obtain ⟨rfl, f1, f2⟩ := q49
        have R2 := f1.Rl R1
        have Wa2 : h49.1[wa]? = some (.inl (2, 12)) := by rw [f1.1.1]; exact Wa1
        have g1 := e1.tr f1
        have g2 : ∀ b, b ≠ ra + 5 → h49.2.2.1 b = h.2.2.1 b := fun b hb => (f2 b hb).trans (e2 b hb)
        rw [e2 wa hne]
        refine je_lconst0 (pc := 52) d5004_52 ?_
        refine je_lcmp (pc := 53) d5004_53 ?_
        refine je_ifeq (pc := 54) 92 d5004_54 (by decide) (fun c54 => ?_) (fun c54 => ?_)
        · refine ju_inc (pc := 92) (y := 1) (lv' := [some _, some _, some _, some _, none, none]) d5004_92 rfl rfl rfl ?_
          refine je_goto (pc := 95) 2 d5004_95 (by decide) ?_
          rw [nI_1 k]
          rw [if_neg (fun z => z.elim nt (fun y => y ((lg_cmp_eq _ _).mp c54)))] at e3
          exact kk (some _) _ ⟨g1, g2, e3⟩
        · rw [if_pos (Or.inr (fun z => c54 ((lg_cmp_eq _ _).mpr z)))] at e3
          rw [← e3]
          exact ru_sum R Wa hne hr wf ho g1 g2 hk _
    · refine je_iconst (pc := 25) (v := 1) d5004_25 rfl ?_
      refine je_goto (pc := 26) 30 d5004_26 (by decide) ?_
      refine ju_istore3 (pc := 30) (lv' := [some _, some _, some _, some _, none, none]) d5004_30 rfl rfl ?_
      refine je_iload3 (pc := 31) d5004_31 rfl ?_
      refine je_ifne (pc := 32) 57 d5004_32 (by decide) (fun c32 => ?_) (fun c32 => ?_)
      · rw [if_pos (Or.inl ((nI_eq (by omega) (by omega)).mp c22))] at e3
        rw [← e3]
        exact ru_sum R Wa hne hr wf ho e1 e2 hk _
      · exact absurd c32 (by decide)
  · obtain ⟨e1, e2, e3⟩ := e
    have R1 := e1.Rl R
    have Wa1 : h'.1[wa]? = some (.inl (2, 12)) := by rw [e1.1.1]; exact Wa
    have n0 : h'.2.1 ra 5 = nI r.1.1 := by rw [e1.2 _ (fun z => z)]; exact hr.2.1
    have w0 := wf.1
    refine je_iload2 (pc := 2) d5004_2 rfl ?_
    refine je_aload0 (pc := 3) d5004_3 rfl ?_
    refine ju_geti (pc := 4) d5004_4 jF_5_32 rfl R1.1 ?_
    refine ju_icge (pc := 7) 98 d5004_7 (by decide) (fun c7 => ?_) (fun c7 => absurd c7 (by rw [n0]; exact nI_nlt (Nat.le_refl _) (by omega)))
    refine je_iconst (pc := 98) (v := 0) d5004_98 rfl ?_
    refine je_iret (pc := 99) d5004_99 rfl ?_
    rw [Nat.sub_self, crL] at e3
    rw [← e3]
    exact ⟨rfl, e1, e2⟩
