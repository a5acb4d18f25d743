/-! rules: the model reckons by them -/
/-- the model's signs -/
def jnM (k : Int32) (a b : Int64) : Int64 :=
  if k = 2 then a + b else if k = 3 then a - b else if k = 4 then (if a < b then 1 else 0) else if k = 5 then (if b < a then 0 else 1) else if k = 6 then (if a = b then 1 else 0) else if k = 7 then (if a < b then 0 else 1) else if k = 8 then (if b < a then 1 else 0) else if k = 9 then a ||| b else if k = 10 then a &&& b else if k = 11 then a ||| b else if k = 12 then a ||| b
  else if k = 13 then a * b else if k = 14 then (if b = 0 then 0 else a / b) else if k = 15 then (if b = 0 then 0 else a - a / b * b) else a ||| b
set_option maxHeartbeats 2000000 in
theorem t_Mo_truth (d : Nat) {bc bs : Nat} {h : jx_H} {v : Int32} {q : Prop} [Decidable q] (hq : v = b2 q) : jx_Tr (d + 1) bc bs 12067 [.int v] h (fun r h' => r = some (.long (if q then 1 else 0)) ∧ h' = h) := by
  refine jx_tr jM_Mo_truth rfl rfl (lv := [some (.int v)]) rfl ?_
  refine je_iload0 (pc := 0) d12067_0 rfl ?_
  refine je_ifeq (pc := 1) 8 d12067_1 (by decide) (fun c1 => ?_) (fun c1 => ?_)
  · refine je_lconst0 (pc := 8) d12067_8 ?_
    refine je_lret (pc := 9) d12067_9 rfl ?_
    exact ⟨by rw [if_neg (b2_0.mp (hq.symm.trans c1))], rfl⟩
  · refine je_lconst1 (pc := 4) d12067_4 ?_
    refine je_goto (pc := 5) 9 d12067_5 (by decide) ?_
    refine je_lret (pc := 9) d12067_9 rfl ?_
    exact ⟨by rw [if_pos (b2_n (fun z => c1 (hq.trans z)))], rfl⟩
set_option maxHeartbeats 2000000 in
theorem t_Mo_both (d : Nat) {bc bs : Nat} {h : jx_H} (k : Int32) (a b : Int64) : jx_Tr (d + 2) bc bs 12066 [.int k, .long a, .long b] h (fun r h' => r = some (.long (jnM k a b)) ∧ h' = h) := by
  refine jx_tr jM_Mo_both rfl rfl (lv := [some (.int k), some (.long a), none, some (.long b), none]) rfl ?_
  refine je_iload0 (pc := 0) d12066_0 rfl ?_
  by_cases s1_2 : k = 2
  · refine je_table (pc := 1) 72 d12066_1 (by rw [s1_2]; decide) (by rw [s1_2]; decide) (off := 71) (by rw [s1_2]; rfl) (by decide) ?_
    refine je_lload1 (pc := 72) d12066_72 rfl ?_
    refine je_lload3 (pc := 73) d12066_73 rfl ?_
    refine je_ladd (pc := 74) d12066_74 ?_
    refine je_lret (pc := 75) d12066_75 rfl ?_
    exact ⟨by rw [jnM, if_pos s1_2], rfl⟩
  by_cases s1_3 : k = 3
  · refine je_table (pc := 1) 76 d12066_1 (by rw [s1_3]; decide) (by rw [s1_3]; decide) (off := 75) (by rw [s1_3]; rfl) (by decide) ?_
    refine je_lload1 (pc := 76) d12066_76 rfl ?_
    refine je_lload3 (pc := 77) d12066_77 rfl ?_
    refine je_lsub (pc := 78) d12066_78 ?_
    refine je_lret (pc := 79) d12066_79 rfl ?_
    exact ⟨by rw [jnM, if_neg s1_2, if_pos s1_3], rfl⟩
  by_cases s1_4 : k = 4
  · refine je_table (pc := 1) 112 d12066_1 (by rw [s1_4]; decide) (by rw [s1_4]; decide) (off := 111) (by rw [s1_4]; rfl) (by decide) ?_
    refine je_lload1 (pc := 112) d12066_112 rfl ?_
    refine je_lload3 (pc := 113) d12066_113 rfl ?_
    refine je_lcmp (pc := 114) d12066_114 ?_
    refine ju_ifge (pc := 115) 122 d12066_115 (by decide) (fun c115 => ?_) (fun c115 => ?_)
    · refine je_iconst (pc := 122) (v := 0) d12066_122 rfl ?_
      refine ju_calls (pc := 123) (as := [_]) d12066_123 jL_12_386 jM_Mo_truth rfl rfl (by exact Nat.le_of_ble_eq_true rfl) (t_Mo_truth d (q := a < b) (b2_f (fun z => c115 ((lg_cmp_lt _ _).mpr z))).symm) (fun r123 h123 q123 => ?_)
      obtain ⟨rfl, e123⟩ := q123
      obtain rfl := e123.symm
      refine je_lret (pc := 126) d12066_126 rfl ?_
      exact ⟨by rw [jnM, if_neg s1_2, if_neg s1_3, if_pos s1_4], rfl⟩
    · refine je_iconst (pc := 118) (v := 1) d12066_118 rfl ?_
      refine je_goto (pc := 119) 123 d12066_119 (by decide) ?_
      refine ju_calls (pc := 123) (as := [_]) d12066_123 jL_12_386 jM_Mo_truth rfl rfl (by exact Nat.le_of_ble_eq_true rfl) (t_Mo_truth d (q := a < b) (b2_t ((lg_cmp_lt _ _).mp c115)).symm) (fun r123 h123 q123 => ?_)
      obtain ⟨rfl, e123⟩ := q123
      obtain rfl := e123.symm
      refine je_lret (pc := 126) d12066_126 rfl ?_
      exact ⟨by rw [jnM, if_neg s1_2, if_neg s1_3, if_pos s1_4], rfl⟩
  by_cases s1_5 : k = 5
  · refine je_table (pc := 1) 127 d12066_1 (by rw [s1_5]; decide) (by rw [s1_5]; decide) (off := 126) (by rw [s1_5]; rfl) (by decide) ?_
    refine je_lload1 (pc := 127) d12066_127 rfl ?_
    refine je_lload3 (pc := 128) d12066_128 rfl ?_
    refine je_lcmp (pc := 129) d12066_129 ?_
    refine je_ifgt (pc := 130) 137 d12066_130 (by decide) (fun c130 => ?_) (fun c130 => ?_)
    · refine je_iconst (pc := 137) (v := 0) d12066_137 rfl ?_
      refine ju_calls (pc := 138) (as := [_]) d12066_138 jL_12_386 jM_Mo_truth rfl rfl (by exact Nat.le_of_ble_eq_true rfl) (t_Mo_truth d (q := ¬ b < a) (b2_f (q := ¬ b < a) (fun z => z ((lg_cmp_gt _ _).mp c130))).symm) (fun r138 h138 q138 => ?_)
      obtain ⟨rfl, e138⟩ := q138
      obtain rfl := e138.symm
      refine je_lret (pc := 141) d12066_141 rfl ?_
      exact ⟨by rw [jnM, if_neg s1_2, if_neg s1_3, if_neg s1_4, if_pos s1_5, if_neg (fun z => z ((lg_cmp_gt _ _).mp c130)), if_pos ((lg_cmp_gt _ _).mp c130)], rfl⟩
    · refine je_iconst (pc := 133) (v := 1) d12066_133 rfl ?_
      refine je_goto (pc := 134) 138 d12066_134 (by decide) ?_
      refine ju_calls (pc := 138) (as := [_]) d12066_138 jL_12_386 jM_Mo_truth rfl rfl (by exact Nat.le_of_ble_eq_true rfl) (t_Mo_truth d (q := ¬ b < a) (b2_t (q := ¬ b < a) (fun z => c130 ((lg_cmp_gt _ _).mpr z))).symm) (fun r138 h138 q138 => ?_)
      obtain ⟨rfl, e138⟩ := q138
      obtain rfl := e138.symm
      refine je_lret (pc := 141) d12066_141 rfl ?_
      exact ⟨by rw [jnM, if_neg s1_2, if_neg s1_3, if_neg s1_4, if_pos s1_5, if_pos (fun z => c130 ((lg_cmp_gt _ _).mpr z)), if_neg (fun z => c130 ((lg_cmp_gt _ _).mpr z))], rfl⟩
  by_cases s1_6 : k = 6
  · refine je_table (pc := 1) 142 d12066_1 (by rw [s1_6]; decide) (by rw [s1_6]; decide) (off := 141) (by rw [s1_6]; rfl) (by decide) ?_
    refine je_lload1 (pc := 142) d12066_142 rfl ?_
    refine je_lload3 (pc := 143) d12066_143 rfl ?_
    refine je_lcmp (pc := 144) d12066_144 ?_
    refine je_ifne (pc := 145) 152 d12066_145 (by decide) (fun c145 => ?_) (fun c145 => ?_)
    · refine je_iconst (pc := 152) (v := 0) d12066_152 rfl ?_
      refine ju_calls (pc := 153) (as := [_]) d12066_153 jL_12_386 jM_Mo_truth rfl rfl (by exact Nat.le_of_ble_eq_true rfl) (t_Mo_truth d (q := a = b) (b2_f (fun z => c145 ((lg_cmp_eq _ _).mpr z))).symm) (fun r153 h153 q153 => ?_)
      obtain ⟨rfl, e153⟩ := q153
      obtain rfl := e153.symm
      refine je_lret (pc := 156) d12066_156 rfl ?_
      exact ⟨by rw [jnM, if_neg s1_2, if_neg s1_3, if_neg s1_4, if_neg s1_5, if_pos s1_6], rfl⟩
    · refine je_iconst (pc := 148) (v := 1) d12066_148 rfl ?_
      refine je_goto (pc := 149) 153 d12066_149 (by decide) ?_
      refine ju_calls (pc := 153) (as := [_]) d12066_153 jL_12_386 jM_Mo_truth rfl rfl (by exact Nat.le_of_ble_eq_true rfl) (t_Mo_truth d (q := a = b) (b2_t ((lg_cmp_eq _ _).mp c145)).symm) (fun r153 h153 q153 => ?_)
      obtain ⟨rfl, e153⟩ := q153
      obtain rfl := e153.symm
      refine je_lret (pc := 156) d12066_156 rfl ?_
      exact ⟨by rw [jnM, if_neg s1_2, if_neg s1_3, if_neg s1_4, if_neg s1_5, if_pos s1_6], rfl⟩
  by_cases s1_7 : k = 7
  · refine je_table (pc := 1) 157 d12066_1 (by rw [s1_7]; decide) (by rw [s1_7]; decide) (off := 156) (by rw [s1_7]; rfl) (by decide) ?_
    refine je_lload1 (pc := 157) d12066_157 rfl ?_
    refine je_lload3 (pc := 158) d12066_158 rfl ?_
    refine je_lcmp (pc := 159) d12066_159 ?_
    refine je_iflt (pc := 160) 167 d12066_160 (by decide) (fun c160 => ?_) (fun c160 => ?_)
    · refine je_iconst (pc := 167) (v := 0) d12066_167 rfl ?_
      refine ju_calls (pc := 168) (as := [_]) d12066_168 jL_12_386 jM_Mo_truth rfl rfl (by exact Nat.le_of_ble_eq_true rfl) (t_Mo_truth d (q := ¬ a < b) (b2_f (q := ¬ a < b) (fun z => z ((lg_cmp_lt _ _).mp c160))).symm) (fun r168 h168 q168 => ?_)
      obtain ⟨rfl, e168⟩ := q168
      obtain rfl := e168.symm
      refine je_lret (pc := 171) d12066_171 rfl ?_
      exact ⟨by rw [jnM, if_neg s1_2, if_neg s1_3, if_neg s1_4, if_neg s1_5, if_neg s1_6, if_pos s1_7, if_neg (fun z => z ((lg_cmp_lt _ _).mp c160)), if_pos ((lg_cmp_lt _ _).mp c160)], rfl⟩
    · refine je_iconst (pc := 163) (v := 1) d12066_163 rfl ?_
      refine je_goto (pc := 164) 168 d12066_164 (by decide) ?_
      refine ju_calls (pc := 168) (as := [_]) d12066_168 jL_12_386 jM_Mo_truth rfl rfl (by exact Nat.le_of_ble_eq_true rfl) (t_Mo_truth d (q := ¬ a < b) (b2_t (q := ¬ a < b) (fun z => c160 ((lg_cmp_lt _ _).mpr z))).symm) (fun r168 h168 q168 => ?_)
      obtain ⟨rfl, e168⟩ := q168
      obtain rfl := e168.symm
      refine je_lret (pc := 171) d12066_171 rfl ?_
      exact ⟨by rw [jnM, if_neg s1_2, if_neg s1_3, if_neg s1_4, if_neg s1_5, if_neg s1_6, if_pos s1_7, if_pos (fun z => c160 ((lg_cmp_lt _ _).mpr z)), if_neg (fun z => c160 ((lg_cmp_lt _ _).mpr z))], rfl⟩
  by_cases s1_8 : k = 8
  · refine je_table (pc := 1) 172 d12066_1 (by rw [s1_8]; decide) (by rw [s1_8]; decide) (off := 171) (by rw [s1_8]; rfl) (by decide) ?_
    refine je_lload1 (pc := 172) d12066_172 rfl ?_
    refine je_lload3 (pc := 173) d12066_173 rfl ?_
    refine je_lcmp (pc := 174) d12066_174 ?_
    refine ju_ifle (pc := 175) 182 d12066_175 (by decide) (fun c175 => ?_) (fun c175 => ?_)
    · refine je_iconst (pc := 182) (v := 0) d12066_182 rfl ?_
      refine ju_calls (pc := 183) (as := [_]) d12066_183 jL_12_386 jM_Mo_truth rfl rfl (by exact Nat.le_of_ble_eq_true rfl) (t_Mo_truth d (q := b < a) (b2_f (fun z => c175 ((lg_cmp_gt _ _).mpr z))).symm) (fun r183 h183 q183 => ?_)
      obtain ⟨rfl, e183⟩ := q183
      obtain rfl := e183.symm
      refine je_lret (pc := 186) d12066_186 rfl ?_
      exact ⟨by rw [jnM, if_neg s1_2, if_neg s1_3, if_neg s1_4, if_neg s1_5, if_neg s1_6, if_neg s1_7, if_pos s1_8], rfl⟩
    · refine je_iconst (pc := 178) (v := 1) d12066_178 rfl ?_
      refine je_goto (pc := 179) 183 d12066_179 (by decide) ?_
      refine ju_calls (pc := 183) (as := [_]) d12066_183 jL_12_386 jM_Mo_truth rfl rfl (by exact Nat.le_of_ble_eq_true rfl) (t_Mo_truth d (q := b < a) (b2_t ((lg_cmp_gt _ _).mp c175)).symm) (fun r183 h183 q183 => ?_)
      obtain ⟨rfl, e183⟩ := q183
      obtain rfl := e183.symm
      refine je_lret (pc := 186) d12066_186 rfl ?_
      exact ⟨by rw [jnM, if_neg s1_2, if_neg s1_3, if_neg s1_4, if_neg s1_5, if_neg s1_6, if_neg s1_7, if_pos s1_8], rfl⟩
  by_cases s1_9 : k = 9
  · refine je_table (pc := 1) 191 d12066_1 (by rw [s1_9]; decide) (by rw [s1_9]; decide) (off := 190) (by rw [s1_9]; rfl) (by decide) ?_
    refine je_lload1 (pc := 191) d12066_191 rfl ?_
    refine je_lload3 (pc := 192) d12066_192 rfl ?_
    refine je_lor (pc := 193) d12066_193 ?_
    refine je_lret (pc := 194) d12066_194 rfl ?_
    exact ⟨by rw [jnM, if_neg s1_2, if_neg s1_3, if_neg s1_4, if_neg s1_5, if_neg s1_6, if_neg s1_7, if_neg s1_8, if_pos s1_9], rfl⟩
  by_cases s1_10 : k = 10
  · refine je_table (pc := 1) 187 d12066_1 (by rw [s1_10]; decide) (by rw [s1_10]; decide) (off := 186) (by rw [s1_10]; rfl) (by decide) ?_
    refine je_lload1 (pc := 187) d12066_187 rfl ?_
    refine je_lload3 (pc := 188) d12066_188 rfl ?_
    refine je_land (pc := 189) d12066_189 ?_
    refine je_lret (pc := 190) d12066_190 rfl ?_
    exact ⟨by rw [jnM, if_neg s1_2, if_neg s1_3, if_neg s1_4, if_neg s1_5, if_neg s1_6, if_neg s1_7, if_neg s1_8, if_neg s1_9, if_pos s1_10], rfl⟩
  by_cases s1_11 : k = 11
  · refine je_table (pc := 1) 191 d12066_1 (by rw [s1_11]; decide) (by rw [s1_11]; decide) (off := 190) (by rw [s1_11]; rfl) (by decide) ?_
    refine je_lload1 (pc := 191) d12066_191 rfl ?_
    refine je_lload3 (pc := 192) d12066_192 rfl ?_
    refine je_lor (pc := 193) d12066_193 ?_
    refine je_lret (pc := 194) d12066_194 rfl ?_
    exact ⟨by rw [jnM, if_neg s1_2, if_neg s1_3, if_neg s1_4, if_neg s1_5, if_neg s1_6, if_neg s1_7, if_neg s1_8, if_neg s1_9, if_neg s1_10, if_pos s1_11], rfl⟩
  by_cases s1_12 : k = 12
  · refine je_table (pc := 1) 191 d12066_1 (by rw [s1_12]; decide) (by rw [s1_12]; decide) (off := 190) (by rw [s1_12]; rfl) (by decide) ?_
    refine je_lload1 (pc := 191) d12066_191 rfl ?_
    refine je_lload3 (pc := 192) d12066_192 rfl ?_
    refine je_lor (pc := 193) d12066_193 ?_
    refine je_lret (pc := 194) d12066_194 rfl ?_
    exact ⟨by rw [jnM, if_neg s1_2, if_neg s1_3, if_neg s1_4, if_neg s1_5, if_neg s1_6, if_neg s1_7, if_neg s1_8, if_neg s1_9, if_neg s1_10, if_neg s1_11, if_pos s1_12], rfl⟩
  by_cases s1_13 : k = 13
  · refine je_table (pc := 1) 80 d12066_1 (by rw [s1_13]; decide) (by rw [s1_13]; decide) (off := 79) (by rw [s1_13]; rfl) (by decide) ?_
    refine je_lload1 (pc := 80) d12066_80 rfl ?_
    refine je_lload3 (pc := 81) d12066_81 rfl ?_
    refine je_lmul (pc := 82) d12066_82 ?_
    refine je_lret (pc := 83) d12066_83 rfl ?_
    exact ⟨by rw [jnM, if_neg s1_2, if_neg s1_3, if_neg s1_4, if_neg s1_5, if_neg s1_6, if_neg s1_7, if_neg s1_8, if_neg s1_9, if_neg s1_10, if_neg s1_11, if_neg s1_12, if_pos s1_13], rfl⟩
  by_cases s1_14 : k = 14
  · refine je_table (pc := 1) 84 d12066_1 (by rw [s1_14]; decide) (by rw [s1_14]; decide) (off := 83) (by rw [s1_14]; rfl) (by decide) ?_
    refine je_lload3 (pc := 84) d12066_84 rfl ?_
    refine je_lconst0 (pc := 85) d12066_85 ?_
    refine je_lcmp (pc := 86) d12066_86 ?_
    refine je_ifne (pc := 87) 94 d12066_87 (by decide) (fun c87 => ?_) (fun c87 => ?_)
    · refine je_lload1 (pc := 94) d12066_94 rfl ?_
      refine je_lload3 (pc := 95) d12066_95 rfl ?_
      refine je_ldiv (pc := 96) d12066_96 (fun z => c87 ((lg_cmp_eq _ _).mpr z)) ?_
      refine je_lret (pc := 97) d12066_97 rfl ?_
      exact ⟨by rw [jnM, if_neg s1_2, if_neg s1_3, if_neg s1_4, if_neg s1_5, if_neg s1_6, if_neg s1_7, if_neg s1_8, if_neg s1_9, if_neg s1_10, if_neg s1_11, if_neg s1_12, if_neg s1_13, if_pos s1_14, if_neg (fun z => c87 ((lg_cmp_eq _ _).mpr z))], rfl⟩
    · refine je_lconst0 (pc := 90) d12066_90 ?_
      refine je_goto (pc := 91) 97 d12066_91 (by decide) ?_
      refine je_lret (pc := 97) d12066_97 rfl ?_
      exact ⟨by rw [jnM, if_neg s1_2, if_neg s1_3, if_neg s1_4, if_neg s1_5, if_neg s1_6, if_neg s1_7, if_neg s1_8, if_neg s1_9, if_neg s1_10, if_neg s1_11, if_neg s1_12, if_neg s1_13, if_pos s1_14, if_pos ((lg_cmp_eq _ _).mp c87)], rfl⟩
  by_cases s1_15 : k = 15
  · refine je_table (pc := 1) 98 d12066_1 (by rw [s1_15]; decide) (by rw [s1_15]; decide) (off := 97) (by rw [s1_15]; rfl) (by decide) ?_
    refine je_lload3 (pc := 98) d12066_98 rfl ?_
    refine je_lconst0 (pc := 99) d12066_99 ?_
    refine je_lcmp (pc := 100) d12066_100 ?_
    refine je_ifne (pc := 101) 108 d12066_101 (by decide) (fun c101 => ?_) (fun c101 => ?_)
    · refine je_lload1 (pc := 108) d12066_108 rfl ?_
      refine je_lload3 (pc := 109) d12066_109 rfl ?_
      refine je_lrem (pc := 110) d12066_110 (fun z => c101 ((lg_cmp_eq _ _).mpr z)) ?_
      refine je_lret (pc := 111) d12066_111 rfl ?_
      exact ⟨by rw [jnM, if_neg s1_2, if_neg s1_3, if_neg s1_4, if_neg s1_5, if_neg s1_6, if_neg s1_7, if_neg s1_8, if_neg s1_9, if_neg s1_10, if_neg s1_11, if_neg s1_12, if_neg s1_13, if_neg s1_14, if_pos s1_15, if_neg (fun z => c101 ((lg_cmp_eq _ _).mpr z))], rfl⟩
    · refine je_lconst0 (pc := 104) d12066_104 ?_
      refine je_goto (pc := 105) 111 d12066_105 (by decide) ?_
      refine je_lret (pc := 111) d12066_111 rfl ?_
      exact ⟨by rw [jnM, if_neg s1_2, if_neg s1_3, if_neg s1_4, if_neg s1_5, if_neg s1_6, if_neg s1_7, if_neg s1_8, if_neg s1_9, if_neg s1_10, if_neg s1_11, if_neg s1_12, if_neg s1_13, if_neg s1_14, if_pos s1_15, if_pos ((lg_cmp_eq _ _).mp c101)], rfl⟩
  have ns1_2 := lv_neT s1_2 (a := 2) rfl
  have ns1_3 := lv_neT s1_3 (a := 3) rfl
  have ns1_4 := lv_neT s1_4 (a := 4) rfl
  have ns1_5 := lv_neT s1_5 (a := 5) rfl
  have ns1_6 := lv_neT s1_6 (a := 6) rfl
  have ns1_7 := lv_neT s1_7 (a := 7) rfl
  have ns1_8 := lv_neT s1_8 (a := 8) rfl
  have ns1_9 := lv_neT s1_9 (a := 9) rfl
  have ns1_10 := lv_neT s1_10 (a := 10) rfl
  have ns1_11 := lv_neT s1_11 (a := 11) rfl
  have ns1_12 := lv_neT s1_12 (a := 12) rfl
  have ns1_13 := lv_neT s1_13 (a := 13) rfl
  have ns1_14 := lv_neT s1_14 (a := 14) rfl
  have ns1_15 := lv_neT s1_15 (a := 15) rfl
  refine je_tableO (pc := 1) 191 d12066_1 (by omega) (by decide) ?_
  refine je_lload1 (pc := 191) d12066_191 rfl ?_
  refine je_lload3 (pc := 192) d12066_192 rfl ?_
  refine je_lor (pc := 193) d12066_193 ?_
  refine je_lret (pc := 194) d12066_194 rfl ?_
  exact ⟨by rw [jnM, if_neg s1_2, if_neg s1_3, if_neg s1_4, if_neg s1_5, if_neg s1_6, if_neg s1_7, if_neg s1_8, if_neg s1_9, if_neg s1_10, if_neg s1_11, if_neg s1_12, if_neg s1_13, if_neg s1_14, if_neg s1_15], rfl⟩
theorem jnE_2 (a b : Int64) : jnM 2 a b = jnR (-1) a b := by unfold jnM jnR; rw [if_pos (rfl : (2 : Int32) = 2)]; rw [if_neg (by decide : ¬ ((-1 : Int32) = -12)), if_neg (by decide : ¬ ((-1 : Int32) = -11)), if_neg (by decide : ¬ ((-1 : Int32) = -10)), if_neg (by decide : ¬ ((-1 : Int32) = -9)), if_neg (by decide : ¬ ((-1 : Int32) = -8)), if_neg (by decide : ¬ ((-1 : Int32) = -7)), if_neg (by decide : ¬ ((-1 : Int32) = -6)), if_neg (by decide : ¬ ((-1 : Int32) = -5)), if_neg (by decide : ¬ ((-1 : Int32) = -4)), if_neg (by decide : ¬ ((-1 : Int32) = -3)), if_neg (by decide : ¬ ((-1 : Int32) = -2)), if_pos (rfl : (-1 : Int32) = -1)]
theorem jnE_3 (a b : Int64) : jnM 3 a b = jnR (-2) a b := by unfold jnM jnR; rw [if_neg (by decide : ¬ ((3 : Int32) = 2)), if_pos (rfl : (3 : Int32) = 3)]; rw [if_neg (by decide : ¬ ((-2 : Int32) = -12)), if_neg (by decide : ¬ ((-2 : Int32) = -11)), if_neg (by decide : ¬ ((-2 : Int32) = -10)), if_neg (by decide : ¬ ((-2 : Int32) = -9)), if_neg (by decide : ¬ ((-2 : Int32) = -8)), if_neg (by decide : ¬ ((-2 : Int32) = -7)), if_neg (by decide : ¬ ((-2 : Int32) = -6)), if_neg (by decide : ¬ ((-2 : Int32) = -5)), if_neg (by decide : ¬ ((-2 : Int32) = -4)), if_neg (by decide : ¬ ((-2 : Int32) = -3)), if_pos (rfl : (-2 : Int32) = -2)]
theorem jnE_13 (a b : Int64) : jnM 13 a b = jnR (-3) a b := by unfold jnM jnR; rw [if_neg (by decide : ¬ ((13 : Int32) = 2)), if_neg (by decide : ¬ ((13 : Int32) = 3)), if_neg (by decide : ¬ ((13 : Int32) = 4)), if_neg (by decide : ¬ ((13 : Int32) = 5)), if_neg (by decide : ¬ ((13 : Int32) = 6)), if_neg (by decide : ¬ ((13 : Int32) = 7)), if_neg (by decide : ¬ ((13 : Int32) = 8)), if_neg (by decide : ¬ ((13 : Int32) = 9)), if_neg (by decide : ¬ ((13 : Int32) = 10)), if_neg (by decide : ¬ ((13 : Int32) = 11)), if_neg (by decide : ¬ ((13 : Int32) = 12)), if_pos (rfl : (13 : Int32) = 13)]; rw [if_neg (by decide : ¬ ((-3 : Int32) = -12)), if_neg (by decide : ¬ ((-3 : Int32) = -11)), if_neg (by decide : ¬ ((-3 : Int32) = -10)), if_neg (by decide : ¬ ((-3 : Int32) = -9)), if_neg (by decide : ¬ ((-3 : Int32) = -8)), if_neg (by decide : ¬ ((-3 : Int32) = -7)), if_neg (by decide : ¬ ((-3 : Int32) = -6)), if_neg (by decide : ¬ ((-3 : Int32) = -5)), if_neg (by decide : ¬ ((-3 : Int32) = -4)), if_pos (rfl : (-3 : Int32) = -3)]
theorem jnE_14 (a b : Int64) : jnM 14 a b = jnR (-4) a b := by unfold jnM jnR; rw [if_neg (by decide : ¬ ((14 : Int32) = 2)), if_neg (by decide : ¬ ((14 : Int32) = 3)), if_neg (by decide : ¬ ((14 : Int32) = 4)), if_neg (by decide : ¬ ((14 : Int32) = 5)), if_neg (by decide : ¬ ((14 : Int32) = 6)), if_neg (by decide : ¬ ((14 : Int32) = 7)), if_neg (by decide : ¬ ((14 : Int32) = 8)), if_neg (by decide : ¬ ((14 : Int32) = 9)), if_neg (by decide : ¬ ((14 : Int32) = 10)), if_neg (by decide : ¬ ((14 : Int32) = 11)), if_neg (by decide : ¬ ((14 : Int32) = 12)), if_neg (by decide : ¬ ((14 : Int32) = 13)), if_pos (rfl : (14 : Int32) = 14)]; rw [if_neg (by decide : ¬ ((-4 : Int32) = -12)), if_neg (by decide : ¬ ((-4 : Int32) = -11)), if_neg (by decide : ¬ ((-4 : Int32) = -10)), if_neg (by decide : ¬ ((-4 : Int32) = -9)), if_neg (by decide : ¬ ((-4 : Int32) = -8)), if_neg (by decide : ¬ ((-4 : Int32) = -7)), if_neg (by decide : ¬ ((-4 : Int32) = -6)), if_neg (by decide : ¬ ((-4 : Int32) = -5)), if_pos (rfl : (-4 : Int32) = -4)]
theorem jnE_15 (a b : Int64) : jnM 15 a b = jnR (-5) a b := by unfold jnM jnR; rw [if_neg (by decide : ¬ ((15 : Int32) = 2)), if_neg (by decide : ¬ ((15 : Int32) = 3)), if_neg (by decide : ¬ ((15 : Int32) = 4)), if_neg (by decide : ¬ ((15 : Int32) = 5)), if_neg (by decide : ¬ ((15 : Int32) = 6)), if_neg (by decide : ¬ ((15 : Int32) = 7)), if_neg (by decide : ¬ ((15 : Int32) = 8)), if_neg (by decide : ¬ ((15 : Int32) = 9)), if_neg (by decide : ¬ ((15 : Int32) = 10)), if_neg (by decide : ¬ ((15 : Int32) = 11)), if_neg (by decide : ¬ ((15 : Int32) = 12)), if_neg (by decide : ¬ ((15 : Int32) = 13)), if_neg (by decide : ¬ ((15 : Int32) = 14)), if_pos (rfl : (15 : Int32) = 15)]; rw [if_neg (by decide : ¬ ((-5 : Int32) = -12)), if_neg (by decide : ¬ ((-5 : Int32) = -11)), if_neg (by decide : ¬ ((-5 : Int32) = -10)), if_neg (by decide : ¬ ((-5 : Int32) = -9)), if_neg (by decide : ¬ ((-5 : Int32) = -8)), if_neg (by decide : ¬ ((-5 : Int32) = -7)), if_neg (by decide : ¬ ((-5 : Int32) = -6)), if_pos (rfl : (-5 : Int32) = -5)]
theorem jnE_4 (a b : Int64) : jnM 4 a b = jnR (-6) a b := by unfold jnM jnR; rw [if_neg (by decide : ¬ ((4 : Int32) = 2)), if_neg (by decide : ¬ ((4 : Int32) = 3)), if_pos (rfl : (4 : Int32) = 4)]; rw [if_neg (by decide : ¬ ((-6 : Int32) = -12)), if_neg (by decide : ¬ ((-6 : Int32) = -11)), if_neg (by decide : ¬ ((-6 : Int32) = -10)), if_neg (by decide : ¬ ((-6 : Int32) = -9)), if_neg (by decide : ¬ ((-6 : Int32) = -8)), if_neg (by decide : ¬ ((-6 : Int32) = -7)), if_pos (rfl : (-6 : Int32) = -6)]
theorem jnE_5 (a b : Int64) : jnM 5 a b = jnR (-7) a b := by unfold jnM jnR; rw [if_neg (by decide : ¬ ((5 : Int32) = 2)), if_neg (by decide : ¬ ((5 : Int32) = 3)), if_neg (by decide : ¬ ((5 : Int32) = 4)), if_pos (rfl : (5 : Int32) = 5)]; rw [if_neg (by decide : ¬ ((-7 : Int32) = -12)), if_neg (by decide : ¬ ((-7 : Int32) = -11)), if_neg (by decide : ¬ ((-7 : Int32) = -10)), if_neg (by decide : ¬ ((-7 : Int32) = -9)), if_neg (by decide : ¬ ((-7 : Int32) = -8)), if_pos (rfl : (-7 : Int32) = -7)]
theorem jnE_6 (a b : Int64) : jnM 6 a b = jnR (-8) a b := by unfold jnM jnR; rw [if_neg (by decide : ¬ ((6 : Int32) = 2)), if_neg (by decide : ¬ ((6 : Int32) = 3)), if_neg (by decide : ¬ ((6 : Int32) = 4)), if_neg (by decide : ¬ ((6 : Int32) = 5)), if_pos (rfl : (6 : Int32) = 6)]; rw [if_neg (by decide : ¬ ((-8 : Int32) = -12)), if_neg (by decide : ¬ ((-8 : Int32) = -11)), if_neg (by decide : ¬ ((-8 : Int32) = -10)), if_neg (by decide : ¬ ((-8 : Int32) = -9)), if_pos (rfl : (-8 : Int32) = -8)]
theorem jnE_7 (a b : Int64) : jnM 7 a b = jnR (-9) a b := by unfold jnM jnR; rw [if_neg (by decide : ¬ ((7 : Int32) = 2)), if_neg (by decide : ¬ ((7 : Int32) = 3)), if_neg (by decide : ¬ ((7 : Int32) = 4)), if_neg (by decide : ¬ ((7 : Int32) = 5)), if_neg (by decide : ¬ ((7 : Int32) = 6)), if_pos (rfl : (7 : Int32) = 7)]; rw [if_neg (by decide : ¬ ((-9 : Int32) = -12)), if_neg (by decide : ¬ ((-9 : Int32) = -11)), if_neg (by decide : ¬ ((-9 : Int32) = -10)), if_pos (rfl : (-9 : Int32) = -9)]
theorem jnE_8 (a b : Int64) : jnM 8 a b = jnR (-10) a b := by unfold jnM jnR; rw [if_neg (by decide : ¬ ((8 : Int32) = 2)), if_neg (by decide : ¬ ((8 : Int32) = 3)), if_neg (by decide : ¬ ((8 : Int32) = 4)), if_neg (by decide : ¬ ((8 : Int32) = 5)), if_neg (by decide : ¬ ((8 : Int32) = 6)), if_neg (by decide : ¬ ((8 : Int32) = 7)), if_pos (rfl : (8 : Int32) = 8)]; rw [if_neg (by decide : ¬ ((-10 : Int32) = -12)), if_neg (by decide : ¬ ((-10 : Int32) = -11)), if_pos (rfl : (-10 : Int32) = -10)]
theorem jnE_10 (a b : Int64) : jnM 10 a b = jnR (-11) a b := by unfold jnM jnR; rw [if_neg (by decide : ¬ ((10 : Int32) = 2)), if_neg (by decide : ¬ ((10 : Int32) = 3)), if_neg (by decide : ¬ ((10 : Int32) = 4)), if_neg (by decide : ¬ ((10 : Int32) = 5)), if_neg (by decide : ¬ ((10 : Int32) = 6)), if_neg (by decide : ¬ ((10 : Int32) = 7)), if_neg (by decide : ¬ ((10 : Int32) = 8)), if_neg (by decide : ¬ ((10 : Int32) = 9)), if_pos (rfl : (10 : Int32) = 10)]; rw [if_neg (by decide : ¬ ((-11 : Int32) = -12)), if_pos (rfl : (-11 : Int32) = -11)]
theorem jnE_11 (a b : Int64) : jnM 11 a b = jnR (-12) a b := by unfold jnM jnR; rw [if_neg (by decide : ¬ ((11 : Int32) = 2)), if_neg (by decide : ¬ ((11 : Int32) = 3)), if_neg (by decide : ¬ ((11 : Int32) = 4)), if_neg (by decide : ¬ ((11 : Int32) = 5)), if_neg (by decide : ¬ ((11 : Int32) = 6)), if_neg (by decide : ¬ ((11 : Int32) = 7)), if_neg (by decide : ¬ ((11 : Int32) = 8)), if_neg (by decide : ¬ ((11 : Int32) = 9)), if_neg (by decide : ¬ ((11 : Int32) = 10)), if_pos (rfl : (11 : Int32) = 11)]; rw [if_pos (rfl : (-12 : Int32) = -12)]
/-- what an entry of the model is -/
theorem okS_c {s v : Int32} (h : okS s v) : (s = 0 ∧ ¬ encR s v < 0 ∧ encR s v < 100000 ∧ encR s v = v) ∨ (s = 1 ∧ ¬ encR s v < 0 ∧ ¬ encR s v < 100000 ∧ (∃ n : Nat, n < 12 ∧ v = nI n) ∧ (encR s v - 100000).toNatClampNeg = v.toNatClampNeg) ∨ (¬ s = 0 ∧ ¬ s = 1 ∧ encR s v < 0 ∧ (s = 9 ↔ encR s v = -13) ∧ (¬ s = 9 → ∀ a b, jnM s a b = jnR (encR s v) a b)) := by
  rcases h with ⟨rfl, n, hn, rfl⟩ | ⟨rfl, n, hn, rfl⟩ | h
  · exact Or.inl ⟨rfl, nI_pos (by omega), nI_lt (b := 100000) hn (by decide), rfl⟩
  · have e : encR 1 (nI n) = nI (100000 + n) := by rw [← nI_add]; rfl
    refine Or.inr (Or.inl ⟨rfl, ?_, ?_, ⟨n, hn, rfl⟩, ?_⟩)
    · rw [e]; exact nI_pos (by omega)
    · rw [e]; exact nI_nlt (b := 100000) (by omega) (by omega)
    · rw [e, show (100000 : Int32) = nI 100000 from rfl, pk_sub (by omega), Nat.add_sub_cancel_left]
  · refine Or.inr (Or.inr ?_)
    rcases h with rfl | rfl | rfl | rfl | rfl | rfl | rfl | rfl | rfl | rfl | rfl | rfl | rfl
    · exact ⟨by decide, by decide, (by decide : (-1 : Int32) < 0), ⟨fun z => absurd z (by decide), fun z => ((by decide : ¬ ((-1 : Int32) = -13)) z).elim⟩, fun _ a b => jnE_2 a b⟩
    · exact ⟨by decide, by decide, (by decide : (-2 : Int32) < 0), ⟨fun z => absurd z (by decide), fun z => ((by decide : ¬ ((-2 : Int32) = -13)) z).elim⟩, fun _ a b => jnE_3 a b⟩
    · exact ⟨by decide, by decide, (by decide : (-6 : Int32) < 0), ⟨fun z => absurd z (by decide), fun z => ((by decide : ¬ ((-6 : Int32) = -13)) z).elim⟩, fun _ a b => jnE_4 a b⟩
    · exact ⟨by decide, by decide, (by decide : (-7 : Int32) < 0), ⟨fun z => absurd z (by decide), fun z => ((by decide : ¬ ((-7 : Int32) = -13)) z).elim⟩, fun _ a b => jnE_5 a b⟩
    · exact ⟨by decide, by decide, (by decide : (-8 : Int32) < 0), ⟨fun z => absurd z (by decide), fun z => ((by decide : ¬ ((-8 : Int32) = -13)) z).elim⟩, fun _ a b => jnE_6 a b⟩
    · exact ⟨by decide, by decide, (by decide : (-9 : Int32) < 0), ⟨fun z => absurd z (by decide), fun z => ((by decide : ¬ ((-9 : Int32) = -13)) z).elim⟩, fun _ a b => jnE_7 a b⟩
    · exact ⟨by decide, by decide, (by decide : (-10 : Int32) < 0), ⟨fun z => absurd z (by decide), fun z => ((by decide : ¬ ((-10 : Int32) = -13)) z).elim⟩, fun _ a b => jnE_8 a b⟩
    · exact ⟨by decide, by decide, (by decide : (-13 : Int32) < 0), ⟨fun _ => rfl, fun _ => rfl⟩, fun z => absurd rfl z⟩
    · exact ⟨by decide, by decide, (by decide : (-11 : Int32) < 0), ⟨fun z => absurd z (by decide), fun z => ((by decide : ¬ ((-11 : Int32) = -13)) z).elim⟩, fun _ a b => jnE_10 a b⟩
    · exact ⟨by decide, by decide, (by decide : (-12 : Int32) < 0), ⟨fun z => absurd z (by decide), fun z => ((by decide : ¬ ((-12 : Int32) = -13)) z).elim⟩, fun _ a b => jnE_11 a b⟩
    · exact ⟨by decide, by decide, (by decide : (-3 : Int32) < 0), ⟨fun z => absurd z (by decide), fun z => ((by decide : ¬ ((-3 : Int32) = -13)) z).elim⟩, fun _ a b => jnE_13 a b⟩
    · exact ⟨by decide, by decide, (by decide : (-4 : Int32) < 0), ⟨fun z => absurd z (by decide), fun z => ((by decide : ¬ ((-4 : Int32) = -13)) z).elim⟩, fun _ a b => jnE_14 a b⟩
    · exact ⟨by decide, by decide, (by decide : (-5 : Int32) < 0), ⟨fun z => absurd z (by decide), fun z => ((by decide : ¬ ((-5 : Int32) = -13)) z).elim⟩, fun _ a b => jnE_15 a b⟩
theorem okv {sv vv x : Int32} (oc : (sv = 0 ∧ ¬ x < 0 ∧ x < 100000 ∧ x = vv) ∨ (sv = 1 ∧ ¬ x < 0 ∧ ¬ x < 100000 ∧ (∃ n : Nat, n < 12 ∧ vv = nI n) ∧ (x - 100000).toNatClampNeg = vv.toNatClampNeg) ∨ (¬ sv = 0 ∧ ¬ sv = 1 ∧ x < 0 ∧ (sv = 9 ↔ x = -13) ∧ (¬ sv = 9 → ∀ a b, jnM sv a b = jnR x a b))) (h1 : ¬ sv = 0) (h2 : sv = 0 ∨ sv = 1) : vp_in vv 12 := by
  rcases oc with oc | oc | oc
  · exact absurd oc.1 h1
  · obtain ⟨n, hn, rfl⟩ := oc.2.2.2.1
    exact vp_in_nI hn (by decide)
  · exact absurd (h2.resolve_left h1) oc.2.1
set_option maxHeartbeats 2000000 in
theorem t_Mo_answer (d : Nat) {bc bs : Nat} {h : jx_H} {f a n m : Nat} {c : Nat → Int32} {t : Bool} (H : jx_St h) (hf : f < 6) (hc : ∀ j, j < m → okS (h.2.1 281 (300 * f + j)) (h.2.1 282 (300 * f + j)) ∧ encR (h.2.1 281 (300 * f + j)) (h.2.1 282 (300 * f + j)) = c j) (hm : m ≤ 253) (hn : a + n ≤ m) (hp : fa_cnt (fun j => decide (¬ c j < 0)) m ≤ 60) (ht : rpt c a n [] = some [t]) : jx_Tr (d + 3) bc bs 12065 [.ref 253, .int (nI f), .int (nI a), .int (nI (a + n))] h (fun r h' => r = some (.long ((evR c (h.2.2.1 288) a n).headD 0)) ∧ fC (fun _ => False) h h' ∧ ∀ b, b ≠ 289 → h'.2.2.1 b = h.2.2.1 b) := by
  refine jx_tr jM_Mo_answer rfl rfl (lv := [some (.ref 253), some (.int (nI f)), some (.int (nI a)), some (.int (nI (a + n))), none, none, none, none]) rfl ?_
  refine je_iconst (pc := 0) (v := 0) d12065_0 rfl ?_
  refine ju_istore (pc := 1) (lv' := [some _, some _, some _, some _, some _, none, none, none]) d12065_1 rfl rfl ?_
  refine je_iload2 (pc := 3) d12065_3 rfl ?_
  refine ju_istore (pc := 4) (lv' := [some _, some _, some _, some _, some _, some _, none, none]) d12065_4 rfl rfl ?_
  refine je_loop (σ := Option Value × Option Value) (n) (fun k xx => [some (.ref 253), some (.int (nI f)), some (.int (nI a)), some (.int (nI (a + n))), some (.int (nI (evR c (h.2.2.1 288) a k).length)), some (.int (nI (a + k))), xx.1, xx.2]) (fun k _ h' => fC (fun _ => False) h h' ∧ (∀ b, b ≠ 289 → h'.2.2.1 b = h.2.2.1 b) ∧ stk (h'.2.2.1 289) (evR c (h.2.2.1 288) a k)) (fun k xx h' hk e kk => ?_) (fun xx h' e => ?_) (0) (none, none) h (by omega) ⟨fC.rf, fun _ _ => rfl, trivial⟩
  · obtain ⟨e1, e2, e3⟩ := e
    have H1 := e1.St H
    obtain ⟨u, hu⟩ := rpt_k (k := k) ht (by omega)
    obtain ⟨u2, hu2⟩ := rpt_k (k := k + 1) ht (by omega)
    obtain ⟨u', hu', hx'⟩ := rpt_s hu2
    obtain ⟨m1, m2⟩ := ev_mt (wd := h.2.2.1 288) hu
    obtain rfl : u' = u := Option.some.inj (hu'.symm.trans hu)
    obtain ⟨-, -, m3, m4⟩ := ev1_mt (wd := h.2.2.1 288) m1 hx'
    have m5 := fa_cnt_mono (fun j => decide (¬ c j < 0)) (show a + k ≤ m by omega)
    have es : evR c (h.2.2.1 288) a (k + 1) = ev1 (h.2.2.1 288) (c (a + k)) (evR c (h.2.2.1 288) a k) := rfl
    obtain ⟨ok1, ok2⟩ := hc (a + k) (by omega)
    have oc := okS_c ok1
    rw [ok2] at oc
    generalize hsv : h.2.1 281 (300 * f + (a + k)) = sv at oc ok1 ok2
    generalize hvv : h.2.1 282 (300 * f + (a + k)) = vv at oc ok1 ok2
    refine je_iload (pc := 6) d12065_6 rfl ?_
    refine je_iload3 (pc := 8) d12065_8 rfl ?_
    refine ju_icge (pc := 9) 153 d12065_9 (by decide) (fun c9 => absurd c9 (fun z => z (nI_lt (by omega) (by omega)))) (fun c9 => ?_)
    refine je_aload0 (pc := 12) d12065_12 rfl ?_
    refine ju_getr (pc := 13) (b := 281) d12065_13 jF_12_96 rfl (sK253 H1) (sR253_38 H1) ?_
    refine je_sipush (pc := 16) (v := 300) d12065_16 rfl ?_
    refine je_iload1 (pc := 19) d12065_19 rfl ?_
    refine je_imul (pc := 20) d12065_20 ?_
    refine ju_eqi (v := nI (300 * f)) (pk_mul 300 f) ?_
    refine je_iload (pc := 21) d12065_21 rfl ?_
    refine je_iadd (pc := 23) d12065_23 ?_
    refine ju_eqi (v := nI (300 * f + (a + k))) (nI_add _ _) ?_
    refine ju_iald (pc := 24) (jn := (300 * f + (a + k))) d12065_24 (sK281 H1) (vp_in_nI (by omega) (by decide)) (nI_clamp (by omega)) ?_
    refine ju_eqi (v := sv) (by rw [e1.2 _ (fun z => z)]; exact hsv) ?_
    refine ju_istore (pc := 25) (lv' := [some _, some _, some _, some _, some _, some _, some _, _]) d12065_25 rfl rfl ?_
    refine je_aload0 (pc := 27) d12065_27 rfl ?_
    refine ju_getr (pc := 28) (b := 282) d12065_28 jF_12_99 rfl (sK253 H1) (sR253_39 H1) ?_
    refine je_sipush (pc := 31) (v := 300) d12065_31 rfl ?_
    refine je_iload1 (pc := 34) d12065_34 rfl ?_
    refine je_imul (pc := 35) d12065_35 ?_
    refine ju_eqi (v := nI (300 * f)) (pk_mul 300 f) ?_
    refine je_iload (pc := 36) d12065_36 rfl ?_
    refine je_iadd (pc := 38) d12065_38 ?_
    refine ju_eqi (v := nI (300 * f + (a + k))) (nI_add _ _) ?_
    refine ju_iald (pc := 39) (jn := (300 * f + (a + k))) d12065_39 (sK282 H1) (vp_in_nI (by omega) (by decide)) (nI_clamp (by omega)) ?_
    refine ju_eqi (v := vv) (by rw [e1.2 _ (fun z => z)]; exact hvv) ?_
    refine ju_istore (pc := 40) (lv' := [some _, some _, some _, some _, some _, some _, some _, some _]) d12065_40 rfl rfl ?_
    refine je_iload (pc := 42) d12065_42 rfl ?_
    refine je_ifeq (pc := 44) 53 d12065_44 (by decide) (fun c44 => ?_) (fun c44 => ?_)
    · refine je_aload0 (pc := 53) d12065_53 rfl ?_
      refine ju_getr (pc := 54) (b := 289) d12065_54 jF_12_121 rfl (sK253 H1) (sR253_46 H1) ?_
      refine je_iload (pc := 57) d12065_57 rfl ?_
      refine je_iload (pc := 59) d12065_59 rfl ?_
      refine je_ifne (pc := 61) 70 d12065_61 (by decide) (fun c61 => ?_) (fun c61 => ?_)
      · refine je_aload0 (pc := 70) d12065_70 rfl ?_
        refine ju_getr (pc := 71) (b := 288) d12065_71 jF_12_117 rfl (sK253 H1) (sR253_45 H1) ?_
        refine je_iload (pc := 74) d12065_74 rfl ?_
        refine ju_lald (pc := 76) (jn := vv.toNatClampNeg) d12065_76 (sK288 H1) (okv oc c61 (by first | exact Or.inl c44 | exact Or.inr c50)) rfl ?_
        refine ju_last (pc := 77) (jn := (evR c (h.2.2.1 288) a k).length) d12065_77 (sK289 H1) (vp_in_nI (by omega) (by decide)) (nI_clamp (by omega)) ?_
        refine ju_inc (pc := 78) (y := 1) (lv' := [some _, some _, some _, some _, some _, some _, some _, some _]) d12065_78 rfl rfl rfl ?_
        refine je_goto (pc := 81) 147 d12065_81 (by decide) ?_
        refine ju_inc (pc := 147) (y := 1) (lv' := [some _, some _, some _, some _, some _, some _, some _, some _]) d12065_147 rfl rfl rfl ?_
        refine je_goto (pc := 150) 6 d12065_150 (by decide) ?_
        exact absurd c44 c61
      · refine je_iload (pc := 64) d12065_64 rfl ?_
        refine je_i2l (pc := 66) d12065_66 ?_
        refine je_goto (pc := 67) 77 d12065_67 (by decide) ?_
        refine ju_last (pc := 77) (jn := (evR c (h.2.2.1 288) a k).length) d12065_77 (sK289 H1) (vp_in_nI (by omega) (by decide)) (nI_clamp (by omega)) ?_
        refine ju_inc (pc := 78) (y := 1) (lv' := [some _, some _, some _, some _, some _, some _, some _, some _]) d12065_78 rfl rfl rfl ?_
        refine je_goto (pc := 81) 147 d12065_81 (by decide) ?_
        refine ju_inc (pc := 147) (y := 1) (lv' := [some _, some _, some _, some _, some _, some _, some _, some _]) d12065_147 rfl rfl rfl ?_
        refine je_goto (pc := 150) 6 d12065_150 (by decide) ?_
        obtain ⟨-, n1, n2, n3⟩ : sv = 0 ∧ ¬ c (a + k) < 0 ∧ c (a + k) < 100000 ∧ c (a + k) = vv := by
          rcases oc with oc | oc | oc
          · exact oc
          · exact absurd (oc.1.symm.trans c44) (by decide)
          · exact absurd c44 oc.1
        have e5 : evR c (h.2.2.1 288) a (k + 1) = vv.toInt64 :: evR c (h.2.2.1 288) a k := by rw [es]; unfold ev1; rw [if_pos n1, if_pos n2, n3]
        rw [nI_1 (a + k), nI_1 (evR c (h.2.2.1 288) a k).length, show (evR c (h.2.2.1 288) a k).length + 1 = (evR c (h.2.2.1 288) a (k + 1)).length by rw [e5]; rfl]
        refine kk (some _, some _) _ ⟨e1.wL, fun b hb => (wL_ne _ _ _ hb).trans (e2 b hb), ?_⟩
        rw [wL_at, e5]
        exact e3.ps
    · refine je_iload (pc := 47) d12065_47 rfl ?_
      refine je_iconst (pc := 49) (v := 1) d12065_49 rfl ?_
      refine je_icne (pc := 50) 84 d12065_50 (by decide) (fun c50 => ?_) (fun c50 => ?_)
      · obtain ⟨z0, z1, z2, z3, z4⟩ : ¬ sv = 0 ∧ ¬ sv = 1 ∧ c (a + k) < 0 ∧ (sv = 9 ↔ c (a + k) = -13) ∧ (¬ sv = 9 → ∀ a' b', jnM sv a' b' = jnR (c (a + k)) a' b') := by
          rcases oc with oc | oc | oc
          · exact absurd oc.1 c44
          · exact absurd oc.1 c50
          · exact oc
        refine je_iload (pc := 84) d12065_84 rfl ?_
        refine je_bipush (pc := 86) (v := 9) d12065_86 rfl ?_
        refine je_icne (pc := 88) 114 d12065_88 (by decide) (fun c88 => ?_) (fun c88 => ?_)
        · obtain ⟨y, z, v, hst⟩ := m4 (fun z => z z2) (fun q => c88 (z3.mpr q))
          have hl : v.length < 59 := by rw [hst, List.length_cons, List.length_cons] at m2; omega
          refine ju_inc (pc := 114) (y := -1) (lv' := [some _, some _, some _, some _, some _, some _, some _, some _]) d12065_114 rfl rfl rfl ?_
          refine je_aload0 (pc := 117) d12065_117 rfl ?_
          refine ju_getr (pc := 118) (b := 289) d12065_118 jF_12_121 rfl (sK253 H1) (sR253_46 H1) ?_
          refine je_iload (pc := 121) d12065_121 rfl ?_
          refine je_iconst (pc := 123) (v := 1) d12065_123 rfl ?_
          refine je_isub (pc := 124) d12065_124 ?_
          refine ju_eqi (v := nI v.length) (by rw [hst, List.length_cons, List.length_cons, pk_m1]; exact top2 _) ?_
          refine je_iload (pc := 125) d12065_125 rfl ?_
          refine je_aload0 (pc := 127) d12065_127 rfl ?_
          refine ju_getr (pc := 128) (b := 289) d12065_128 jF_12_121 rfl (sK253 H1) (sR253_46 H1) ?_
          refine je_iload (pc := 131) d12065_131 rfl ?_
          refine je_iconst (pc := 133) (v := 1) d12065_133 rfl ?_
          refine je_isub (pc := 134) d12065_134 ?_
          refine ju_eqi (v := nI v.length) (by rw [hst, List.length_cons, List.length_cons, pk_m1]; exact top2 _) ?_
          refine ju_lald (pc := 135) (jn := (v.length)) d12065_135 (sK289 H1) (vp_in_nI (by omega) (by decide)) (nI_clamp (by omega)) ?_
          refine je_aload0 (pc := 136) d12065_136 rfl ?_
          refine ju_getr (pc := 137) (b := 289) d12065_137 jF_12_121 rfl (sK253 H1) (sR253_46 H1) ?_
          refine je_iload (pc := 140) d12065_140 rfl ?_
          refine ju_lald (pc := 142) (jn := v.length + 1) d12065_142 (sK289 H1) (by rw [hst, List.length_cons, List.length_cons, pk_m1]; exact vp_in_nI (by omega) (by decide)) (by rw [hst, List.length_cons, List.length_cons, pk_m1]; exact nI_clamp (by omega)) ?_
          refine ju_calls (pc := 143) (as := [_, _, _]) d12065_143 jL_12_390 jM_Mo_both rfl rfl (by exact Nat.le_of_ble_eq_true rfl) (t_Mo_both (d + 0) _ _ _) (fun r143 h143 q143 => ?_)
          obtain ⟨rfl, e143⟩ := q143
          obtain rfl := e143.symm
          refine ju_last (pc := 146) (jn := (v.length)) d12065_146 (sK289 H1) (vp_in_nI (by omega) (by decide)) (nI_clamp (by omega)) ?_
          refine ju_inc (pc := 147) (y := 1) (lv' := [some _, some _, some _, some _, some _, some _, some _, some _]) d12065_147 rfl rfl rfl ?_
          refine je_goto (pc := 150) 6 d12065_150 (by decide) ?_
          have e5 : evR c (h.2.2.1 288) a (k + 1) = jnM sv z y :: v := by rw [es]; unfold ev1; rw [if_neg (fun z => z z2), if_neg (fun q => c88 (z3.mpr q)), hst, z4 c88]
          rw [nI_1 (a + k), show nI (evR c (h.2.2.1 288) a k).length + -1 = nI (evR c (h.2.2.1 288) a (k + 1)).length by rw [e5, hst, List.length_cons, List.length_cons, List.length_cons, pk_m1]]
          refine kk (some _, some _) _ ⟨e1.wL, fun b hb => (wL_ne _ _ _ hb).trans (e2 b hb), ?_⟩
          rw [hst] at e3
          have e6 : h'.2.2.1 289 (v.length + 1) = y := e3.1
          rw [wL_at, e5, e6, e3.2.1]
          exact e3.2.2.ps
        · obtain ⟨y, v, hst⟩ := m3 (fun z => z z2) (z3.mp c88)
          have hl : v.length < 60 := by rw [hst, List.length_cons] at m2; omega
          refine je_aload0 (pc := 91) d12065_91 rfl ?_
          refine ju_getr (pc := 92) (b := 289) d12065_92 jF_12_121 rfl (sK253 H1) (sR253_46 H1) ?_
          refine je_iload (pc := 95) d12065_95 rfl ?_
          refine je_iconst (pc := 97) (v := 1) d12065_97 rfl ?_
          refine je_isub (pc := 98) d12065_98 ?_
          refine ju_eqi (v := nI v.length) (by rw [hst, List.length_cons]; exact top2 _) ?_
          refine je_lconst1 (pc := 99) d12065_99 ?_
          refine je_aload0 (pc := 100) d12065_100 rfl ?_
          refine ju_getr (pc := 101) (b := 289) d12065_101 jF_12_121 rfl (sK253 H1) (sR253_46 H1) ?_
          refine je_iload (pc := 104) d12065_104 rfl ?_
          refine je_iconst (pc := 106) (v := 1) d12065_106 rfl ?_
          refine je_isub (pc := 107) d12065_107 ?_
          refine ju_eqi (v := nI v.length) (by rw [hst, List.length_cons]; exact top2 _) ?_
          refine ju_lald (pc := 108) (jn := (v.length)) d12065_108 (sK289 H1) (vp_in_nI (by omega) (by decide)) (nI_clamp (by omega)) ?_
          refine je_lsub (pc := 109) d12065_109 ?_
          refine ju_last (pc := 110) (jn := (v.length)) d12065_110 (sK289 H1) (vp_in_nI (by omega) (by decide)) (nI_clamp (by omega)) ?_
          refine je_goto (pc := 111) 147 d12065_111 (by decide) ?_
          refine ju_inc (pc := 147) (y := 1) (lv' := [some _, some _, some _, some _, some _, some _, some _, some _]) d12065_147 rfl rfl rfl ?_
          refine je_goto (pc := 150) 6 d12065_150 (by decide) ?_
          have e5 : evR c (h.2.2.1 288) a (k + 1) = (1 - y) :: v := by rw [es]; unfold ev1; rw [if_neg (fun z => z z2), if_pos (z3.mp c88), hst]
          rw [nI_1 (a + k), show (evR c (h.2.2.1 288) a k).length = (evR c (h.2.2.1 288) a (k + 1)).length by rw [e5, hst]; rfl]
          refine kk (some _, some _) _ ⟨e1.wL, fun b hb => (wL_ne _ _ _ hb).trans (e2 b hb), ?_⟩
          rw [hst] at e3
          rw [wL_at, e5, e3.1]
          exact e3.2.ps
      · refine je_aload0 (pc := 53) d12065_53 rfl ?_
        refine ju_getr (pc := 54) (b := 289) d12065_54 jF_12_121 rfl (sK253 H1) (sR253_46 H1) ?_
        refine je_iload (pc := 57) d12065_57 rfl ?_
        refine je_iload (pc := 59) d12065_59 rfl ?_
        refine je_ifne (pc := 61) 70 d12065_61 (by decide) (fun c61 => ?_) (fun c61 => ?_)
        · refine je_aload0 (pc := 70) d12065_70 rfl ?_
          refine ju_getr (pc := 71) (b := 288) d12065_71 jF_12_117 rfl (sK253 H1) (sR253_45 H1) ?_
          refine je_iload (pc := 74) d12065_74 rfl ?_
          refine ju_lald (pc := 76) (jn := vv.toNatClampNeg) d12065_76 (sK288 H1) (okv oc c61 (by first | exact Or.inl c44 | exact Or.inr c50)) rfl ?_
          refine ju_last (pc := 77) (jn := (evR c (h.2.2.1 288) a k).length) d12065_77 (sK289 H1) (vp_in_nI (by omega) (by decide)) (nI_clamp (by omega)) ?_
          refine ju_inc (pc := 78) (y := 1) (lv' := [some _, some _, some _, some _, some _, some _, some _, some _]) d12065_78 rfl rfl rfl ?_
          refine je_goto (pc := 81) 147 d12065_81 (by decide) ?_
          refine ju_inc (pc := 147) (y := 1) (lv' := [some _, some _, some _, some _, some _, some _, some _, some _]) d12065_147 rfl rfl rfl ?_
          refine je_goto (pc := 150) 6 d12065_150 (by decide) ?_
          obtain ⟨-, n1, n2, n4, n3⟩ : sv = 1 ∧ ¬ c (a + k) < 0 ∧ ¬ c (a + k) < 100000 ∧ (∃ n : Nat, n < 12 ∧ vv = nI n) ∧ (c (a + k) - 100000).toNatClampNeg = vv.toNatClampNeg := by
            rcases oc with oc | oc | oc
            · exact absurd (oc.1.symm.trans c50) (by decide)
            · exact oc
            · exact absurd c50 oc.2.1
          have e5 : evR c (h.2.2.1 288) a (k + 1) = h.2.2.1 288 vv.toNatClampNeg :: evR c (h.2.2.1 288) a k := by rw [es]; unfold ev1; rw [if_pos n1, if_neg n2, n3]
          rw [nI_1 (a + k), nI_1 (evR c (h.2.2.1 288) a k).length, show (evR c (h.2.2.1 288) a k).length + 1 = (evR c (h.2.2.1 288) a (k + 1)).length by rw [e5]; rfl]
          refine kk (some _, some _) _ ⟨e1.wL, fun b hb => (wL_ne _ _ _ hb).trans (e2 b hb), ?_⟩
          rw [wL_at, e5, e2 288 (by decide)]
          exact e3.ps
        · refine je_iload (pc := 64) d12065_64 rfl ?_
          refine je_i2l (pc := 66) d12065_66 ?_
          refine je_goto (pc := 67) 77 d12065_67 (by decide) ?_
          refine ju_last (pc := 77) (jn := (evR c (h.2.2.1 288) a k).length) d12065_77 (sK289 H1) (vp_in_nI (by omega) (by decide)) (nI_clamp (by omega)) ?_
          refine ju_inc (pc := 78) (y := 1) (lv' := [some _, some _, some _, some _, some _, some _, some _, some _]) d12065_78 rfl rfl rfl ?_
          refine je_goto (pc := 81) 147 d12065_81 (by decide) ?_
          refine ju_inc (pc := 147) (y := 1) (lv' := [some _, some _, some _, some _, some _, some _, some _, some _]) d12065_147 rfl rfl rfl ?_
          refine je_goto (pc := 150) 6 d12065_150 (by decide) ?_
          exact absurd c61 c44
  · obtain ⟨e1, e2, e3⟩ := e
    have H1 := e1.St H
    refine je_iload (pc := 6) d12065_6 rfl ?_
    refine je_iload3 (pc := 8) d12065_8 rfl ?_
    refine ju_icge (pc := 9) 153 d12065_9 (by decide) (fun c9 => ?_) (fun c9 => absurd c9 (nI_nlt (Nat.le_refl _) (by omega)))
    obtain ⟨m1, -⟩ := ev_mt (wd := h.2.2.1 288) ht
    obtain ⟨y, hst⟩ : ∃ y, evR c (h.2.2.1 288) a n = [y] := by
      match evR c (h.2.2.1 288) a n, m1 with
      | [y], _ => exact ⟨y, rfl⟩
    rw [hst] at e3
    refine je_aload0 (pc := 153) d12065_153 rfl ?_
    refine ju_getr (pc := 154) (b := 289) d12065_154 jF_12_121 rfl (sK253 H1) (sR253_46 H1) ?_
    refine je_iconst (pc := 157) (v := 0) d12065_157 rfl ?_
    refine ju_lald (pc := 158) (jn := 0) d12065_158 (sK289 H1) (by first | assumption | exact jx_ok_dec (by decide)) (by decide) ?_
    refine je_lret (pc := 159) d12065_159 rfl ?_
    exact ⟨by rw [hst]; exact congrArg (fun x => some (Value.long x)) e3.1, e1, e2⟩
