/-! nights: the model, a whole night -/
/-- what a night of the model changes -/
def fN (h h' : jx_H) : Prop := fC (fun b => (254 ≤ b ∧ b ≤ 256) ∨ b = 262 ∨ b = 290 ∨ b = 291) h h' ∧ ∀ j, j ≠ 5 → h'.2.1 254 j = h.2.1 254 j
theorem fN.rf {h : jx_H} : fN h h := ⟨fC.rf, fun _ _ => rfl⟩
theorem fN.tr {h1 h2 h3 : jx_H} (a : fN h1 h2) (b : fN h2 h3) : fN h1 h3 := ⟨a.1.tr b.1, fun j hj => (b.2 j hj).trans (a.2 j hj)⟩
theorem mRul.fr {h h' : jx_H} {R : Option MR} (q : mRul h R) (e : ∀ b, 281 ≤ b → b ≤ 286 → h'.2.1 b = h.2.1 b) (e8 : h'.2.1 254 8 = h.2.1 254 8) : mRul h' R := by
  match R, q with
  | none, q => exact e8.trans q
  | some r, ⟨f, f1, f2, f3, f4⟩ => exact ⟨f, f1, e8.trans f2, f3.of e, f4⟩
theorem mLaw.fr {h h' : jx_H} {S : MS} {R : Option MR} (q : mLaw h S R) (e : ∀ b, (258 ≤ b ∧ b ≤ 261) ∨ (263 ≤ b ∧ b ≤ 264) ∨ b = 268 ∨ b = 269 ∨ (281 ≤ b ∧ b ≤ 286) → h'.2.1 b = h.2.1 b) (e4 : ∀ j, j < 4 ∨ j = 8 → h'.2.1 254 j = h.2.1 254 j) : mLaw h' S R := ⟨q.1.fr (fun b hb => e b (by omega)) (fun j hj => e4 j (by omega)), q.2.fr (fun b h1 h2 => e b (by omega)) (e4 8 (by omega))⟩
theorem mLaw.N {h h' : jx_H} {S : MS} {R : Option MR} (q : mLaw h S R) (f : fN h h') : mLaw h' S R := q.fr (fun b hb => f.1.2 b (by omega)) (fun j hj => f.2 j (by omega))
set_option maxHeartbeats 4000000 in
theorem mo_t4 {d bc bs : Nat} {h : jx_H} {Q : Option Value → jx_H → Prop} {S : MS} {l0 lm : Nat → Int32} (H : jx_St h) (hS : mSt h.2.1 S) (wS : wfS S) (h0 : 0 < S.1.1) (hmi : S.1.1 ≤ 10) (hl : ∀ m, m < 10 → h.2.1 255 m = lm m) (hy : ∀ v, v < S.1.2.1 → h.2.1 291 v = sdM S l0 v) (x : Int32) (x2 : Option Value) (hQ : ∀ h', fC (fun b => b = 254 ∨ b = 255 ∨ b = 262) h h' → (∀ j, j ≠ 5 → h'.2.1 254 j = h.2.1 254 j) → h'.2.1 254 5 = h.2.1 254 5 + 1 → (∀ m, m < 10 → h'.2.1 255 m = (sagN (h.2.1 254 4) (S.1.1 - 1) lm) m) → (∀ v, v < 8 → h'.2.1 262 v = croF S l0 (sagN (h.2.1 254 4) (S.1.1 - 1) lm) (h.2.1 262) v) → Q (some (.int (nI (cnN S l0 (sagN (h.2.1 254 4) (S.1.1 - 1) lm) S.1.2.1)))) h') : jx_Ev (d + 6) bc bs 12058 147 [some (.ref 253), some (.int x), x2] [] h Q := by
  have w8 := wS.2.1
  refine je_iconst (pc := 147) (v := 0) d12058_147 rfl ?_
  refine ju_istore2 (pc := 148) (lv' := [some _, some _, some _]) d12058_148 rfl rfl ?_
  refine je_loop (σ := Unit) (S.1.1 - 1) (fun k xx => [some (.ref 253), some (.int x), some (.int (nI k))]) (fun k _ h' => fC (fun b => b = 255) h h' ∧ ∀ m, m < 10 → h'.2.1 255 m = sagN (h.2.1 254 4) k lm m) (fun k xx h' hk e kk => ?_) (fun xx h' e => ?_) (0) () h (by omega) ⟨fC.rf, hl⟩
  · obtain ⟨e1, e2⟩ := e
    have H1 := e1.St H
    have hS1 : mSt h'.2.1 S := hS.fr (fun b hb => e1.2 b (by omega)) (fun j hj => by rw [e1.2 254 (by omega)])
    refine je_iload2 (pc := 149) d12058_149 rfl ?_
    refine je_iconst (pc := 150) (v := 1) d12058_150 rfl ?_
    refine je_iadd (pc := 151) d12058_151 ?_
    refine ju_eqi (v := nI ((k) + 1)) (nI_add (k) 1) ?_
    refine je_aload0 (pc := 152) d12058_152 rfl ?_
    refine ju_getr (pc := 153) (b := 254) d12058_153 jF_12_9 rfl (sK253 H1) (sR253_1 H1) ?_
    refine je_iconst (pc := 156) (v := 0) d12058_156 rfl ?_
    refine ju_iald (pc := 157) (jn := 0) d12058_157 (sK254 H1) (by first | assumption | exact jx_ok_dec (by decide)) (by decide) ?_
    refine ju_eqi (v := nI S.1.1) hS1.1.1 ?_
    refine jn_icge (pc := 158) (a := ((k) + 1)) (b := (S.1.1)) 172 d12058_158 (by decide) (by omega) (by omega) (fun c158 => by exfalso; omega) (fun c158 => ?_)
    refine je_aload0 (pc := 161) d12058_161 rfl ?_
    refine je_iload2 (pc := 162) d12058_162 rfl ?_
    refine ju_callv (pc := 163) (as := [_]) d12058_163 jL_12_430 jM_Mo_sags rfl (by decide) (sK253 H1) rfl (by exact Nat.le_of_ble_eq_true rfl) (t_Mo_sags (d + 2) (m := k) H1 (by omega) e2) (fun r163 h163 q163 => ?_)
    obtain ⟨rfl, f1, f2⟩ := q163
    refine ju_incN (pc := 166) (v := nI ((k) + 1)) (lv' := [some _, some _, some _]) d12058_166 rfl (nI_1 (k)) rfl ?_
    refine je_goto (pc := 169) 149 d12058_169 (by decide) ?_
    refine kk () _ ⟨e1.tr f1, fun m hm => ?_⟩
    rw [f2 m hm, e1.2 254 (by omega)]
    rfl
  · obtain ⟨e1, e2⟩ := e
    have H1 := e1.St H
    have hS1 : mSt h'.2.1 S := hS.fr (fun b hb => e1.2 b (by omega)) (fun j hj => by rw [e1.2 254 (by omega)])
    refine je_iload2 (pc := 149) d12058_149 rfl ?_
    refine je_iconst (pc := 150) (v := 1) d12058_150 rfl ?_
    refine je_iadd (pc := 151) d12058_151 ?_
    refine ju_eqi (v := nI (((S.1.1 - 1)) + 1)) (nI_add ((S.1.1 - 1)) 1) ?_
    refine je_aload0 (pc := 152) d12058_152 rfl ?_
    refine ju_getr (pc := 153) (b := 254) d12058_153 jF_12_9 rfl (sK253 H1) (sR253_1 H1) ?_
    refine je_iconst (pc := 156) (v := 0) d12058_156 rfl ?_
    refine ju_iald (pc := 157) (jn := 0) d12058_157 (sK254 H1) (by first | assumption | exact jx_ok_dec (by decide)) (by decide) ?_
    refine ju_eqi (v := nI S.1.1) hS1.1.1 ?_
    refine jn_icge (pc := 158) (a := (((S.1.1 - 1)) + 1)) (b := (S.1.1)) 172 d12058_158 (by decide) (by omega) (by omega) (fun c158 => ?_) (fun c158 => by exfalso; omega)
    refine je_aload0 (pc := 172) d12058_172 rfl ?_
    refine ju_callv (pc := 173) (as := []) d12058_173 jL_12_433 jM_Mo_crossing rfl (by decide) (sK253 H1) rfl (by exact Nat.le_of_ble_eq_true rfl) (t_Mo_crossing (d + 3) (S := S) (l := l0) (l' := (sagN (h.2.1 254 4) (S.1.1 - 1) lm)) H1 hS1 wS e2 (fun v hv => by rw [e1.2 291 (by omega)]; exact hy v hv)) (fun r173 h173 q173 => ?_)
    obtain ⟨rfl, f1, f2⟩ := q173
    have H2 := f1.St H1
    have g1 : fC (fun b => b = 255 ∨ b = 262) h h173 := (e1.mo (fun b hb => by omega)).tr (f1.mo (fun b hb => by omega))
    refine ju_istore2 (pc := 176) (lv' := [some _, some _, some _]) d12058_176 rfl rfl ?_
    refine je_aload0 (pc := 177) d12058_177 rfl ?_
    refine ju_getr (pc := 178) (b := 254) d12058_178 jF_12_9 rfl (sK253 H2) (sR253_1 H2) ?_
    refine je_iconst (pc := 181) (v := 5) d12058_181 rfl ?_
    refine je_dup2 (pc := 182) d12058_182 rfl rfl ?_
    refine ju_iald (pc := 183) (jn := 5) d12058_183 (sK254 H2) (by first | assumption | exact jx_ok_dec (by decide)) (by decide) ?_
    refine je_iconst (pc := 184) (v := 1) d12058_184 rfl ?_
    refine je_iadd (pc := 185) d12058_185 ?_
    refine ju_iast (pc := 186) (jn := 5) d12058_186 (sK254 H2) (by first | assumption | exact jx_ok_dec (by decide)) (by decide) ?_
    refine je_iload2 (pc := 187) d12058_187 rfl ?_
    refine je_iret (pc := 188) d12058_188 rfl ?_
    refine hQ _ ((g1.mo (fun b hb => by omega)).wI (by omega)) (fun j hj => ?_) ?_ (fun m hm => ?_) (fun v hv => ?_)
    · rw [wI_at, jx_up_ne _ _ hj, g1.2 254 (by omega)]
    · rw [wI_at, jx_up_self, g1.2 254 (by omega)]
    · rw [wI_ne _ _ _ (by decide), f1.2 255 (by omega)]; exact e2 m hm
    · rw [wI_ne _ _ _ (by decide), f2 v hv, e1.2 262 (by omega)]
set_option maxHeartbeats 4000000 in
theorem mo_t3 {d bc bs : Nat} {h : jx_H} {Q : Option Value → jx_H → Prop} {S : MS} {l0 ft : Nat → Int32} (H : jx_St h) (hS : mSt h.2.1 S) (wS : wfS S) (h0 : 0 < S.1.1) (hmi : S.1.1 ≤ 10) (hl : ∀ m, m < 10 → h.2.1 255 m = l0 m) (hf : ∀ m, m < S.1.1 → h.2.1 290 m = ft m) (hy : ∀ v, v < S.1.2.1 → h.2.1 291 v = sdM S l0 v) (x : Int32) (x2 : Option Value) (hQ : ∀ h', fC (fun b => b = 254 ∨ b = 255 ∨ b = 262) h h' → (∀ j, j ≠ 5 → h'.2.1 254 j = h.2.1 254 j) → h'.2.1 254 5 = h.2.1 254 5 + 1 → (∀ m, m < 10 → h'.2.1 255 m = (sagN (h.2.1 254 4) (S.1.1 - 1) (moveF S.1.1 ft l0)) m) → (∀ v, v < 8 → h'.2.1 262 v = croF S l0 (sagN (h.2.1 254 4) (S.1.1 - 1) (moveF S.1.1 ft l0)) (h.2.1 262) v) → Q (some (.int (nI (cnN S l0 (sagN (h.2.1 254 4) (S.1.1 - 1) (moveF S.1.1 ft l0)) S.1.2.1)))) h') : jx_Ev (d + 6) bc bs 12058 104 [some (.ref 253), some (.int x), x2] [] h Q := by
  have w8 := wS.2.1
  refine je_iconst (pc := 104) (v := 0) d12058_104 rfl ?_
  refine ju_istore2 (pc := 105) (lv' := [some _, some _, some _]) d12058_105 rfl rfl ?_
  refine je_loop (σ := Unit) (S.1.1) (fun k xx => [some (.ref 253), some (.int x), some (.int (nI k))]) (fun k _ h' => fC (fun b => b = 255) h h' ∧ ∀ m, m < 10 → h'.2.1 255 m = moveF k ft l0 m) (fun k xx h' hk e kk => ?_) (fun xx h' e => ?_) (0) () h (by omega) ⟨fC.rf, fun m hm => (hl m hm).trans (moveF_k (Nat.zero_le m)).symm⟩
  · obtain ⟨e1, e2⟩ := e
    have H1 := e1.St H
    have hS1 : mSt h'.2.1 S := hS.fr (fun b hb => e1.2 b (by omega)) (fun j hj => by rw [e1.2 254 (by omega)])
    refine je_iload2 (pc := 106) d12058_106 rfl ?_
    refine je_aload0 (pc := 107) d12058_107 rfl ?_
    refine ju_getr (pc := 108) (b := 254) d12058_108 jF_12_9 rfl (sK253 H1) (sR253_1 H1) ?_
    refine je_iconst (pc := 111) (v := 0) d12058_111 rfl ?_
    refine ju_iald (pc := 112) (jn := 0) d12058_112 (sK254 H1) (by first | assumption | exact jx_ok_dec (by decide)) (by decide) ?_
    refine ju_eqi (v := nI S.1.1) hS1.1.1 ?_
    refine jn_icge (pc := 113) (a := (k)) (b := (S.1.1)) 147 d12058_113 (by decide) (by omega) (by omega) (fun c113 => by exfalso; omega) (fun c113 => ?_)
    refine je_aload0 (pc := 116) d12058_116 rfl ?_
    refine ju_getr (pc := 117) (b := 255) d12058_117 jF_12_13 rfl (sK253 H1) (sR253_2 H1) ?_
    refine je_iload2 (pc := 120) d12058_120 rfl ?_
    refine je_aload0 (pc := 121) d12058_121 rfl ?_
    refine ju_getr (pc := 122) (b := 255) d12058_122 jF_12_13 rfl (sK253 H1) (sR253_2 H1) ?_
    refine je_iload2 (pc := 125) d12058_125 rfl ?_
    refine ju_iald (pc := 126) (jn := (k)) d12058_126 (sK255 H1) (vp_in_nI (by omega) (by decide)) (nI_clamp (by omega)) ?_
    refine ju_eqi (v := l0 k) (by rw [e2 k (by omega)]; exact moveF_k (Nat.le_refl k)) ?_
    refine je_aload0 (pc := 127) d12058_127 rfl ?_
    refine ju_getr (pc := 128) (b := 290) d12058_128 jF_12_124 rfl (sK253 H1) (sR253_47 H1) ?_
    refine je_iload2 (pc := 131) d12058_131 rfl ?_
    refine ju_iald (pc := 132) (jn := (k)) d12058_132 (sK290 H1) (vp_in_nI (by omega) (by decide)) (nI_clamp (by omega)) ?_
    refine ju_eqi (v := ft k) (by rw [e1.2 290 (by omega)]; exact hf k hk) ?_
    refine je_iadd (pc := 133) d12058_133 ?_
    refine je_i2l (pc := 134) d12058_134 ?_
    refine je_bipush (pc := 135) (v := 20) d12058_135 rfl ?_
    refine ju_calls (pc := 137) (as := [_, _]) d12058_137 jL_12_406 jM_Mo_held rfl rfl (by exact Nat.le_of_ble_eq_true rfl) (t_Mo_held (d + 4) _ _) (fun r137 h137 q137 => ?_)
    obtain ⟨rfl, e137⟩ := q137
    obtain rfl := e137.symm
    refine ju_eqi (v := mhold (l0 k + ft k) (-20) 20) (mheld_w _ 20) ?_
    refine ju_iast (pc := 140) (jn := (k)) d12058_140 (sK255 H1) (vp_in_nI (by omega) (by decide)) (nI_clamp (by omega)) ?_
    refine ju_incN (pc := 141) (v := nI ((k) + 1)) (lv' := [some _, some _, some _]) d12058_141 rfl (nI_1 (k)) rfl ?_
    refine je_goto (pc := 144) 106 d12058_144 (by decide) ?_
    refine kk () _ ⟨e1.wI rfl, fun m hm => ?_⟩
    rw [wI_at, ← moveF_s m]
    unfold jx_up
    rw [e2 m hm]
  · obtain ⟨e1, e2⟩ := e
    have H1 := e1.St H
    have hS1 : mSt h'.2.1 S := hS.fr (fun b hb => e1.2 b (by omega)) (fun j hj => by rw [e1.2 254 (by omega)])
    refine je_iload2 (pc := 106) d12058_106 rfl ?_
    refine je_aload0 (pc := 107) d12058_107 rfl ?_
    refine ju_getr (pc := 108) (b := 254) d12058_108 jF_12_9 rfl (sK253 H1) (sR253_1 H1) ?_
    refine je_iconst (pc := 111) (v := 0) d12058_111 rfl ?_
    refine ju_iald (pc := 112) (jn := 0) d12058_112 (sK254 H1) (by first | assumption | exact jx_ok_dec (by decide)) (by decide) ?_
    refine ju_eqi (v := nI S.1.1) hS1.1.1 ?_
    refine jn_icge (pc := 113) (a := ((S.1.1))) (b := (S.1.1)) 147 d12058_113 (by decide) (by omega) (by omega) (fun c113 => ?_) (fun c113 => by exfalso; omega)
    have b4 : h'.2.1 254 = h.2.1 254 := e1.2 254 (by omega)
    refine mo_t4 (l0 := l0) H1 hS1 wS h0 hmi e2 (fun v hv => by rw [e1.2 291 (by omega)]; exact hy v hv) x _ (fun h2 q1 q2 q3 q4 q5 => ?_)
    rw [b4] at q4 q5 ⊢
    rw [b4] at q3
    rw [e1.2 262 (by omega)] at q5
    exact hQ h2 ((e1.mo (fun b hb => by omega)).tr q1) (fun j hj => by rw [q2 j hj, b4]) q3 q4 q5
set_option maxHeartbeats 4000000 in
theorem mo_t2 {d bc bs : Nat} {h : jx_H} {Q : Option Value → jx_H → Prop} {S : MS} {R : Option MR} {L : ML} (H : jx_St h) (C : mLaw h S R) (wS : wfS S) (h0 : 0 < S.1.1) (hmi : S.1.1 ≤ 10) (hL : mLa h.2.1 L) (hy : ∀ v, v < S.1.2.1 → h.2.1 291 v = sdM S L.1 v) (x : Int32) (x2 : Option Value) (hQ : ∀ h', fC (fun b => b = 290 ∨ b = 254 ∨ b = 255 ∨ b = 262) h h' → (∀ j, j ≠ 5 → h'.2.1 254 j = h.2.1 254 j) → h'.2.1 254 5 = h.2.1 254 5 + 1 → (∀ m, m < 10 → h'.2.1 255 m = (sagN (h.2.1 254 4) (S.1.1 - 1) (moveF S.1.1 (feetF S R L x) L.1)) m) → (∀ v, v < 8 → h'.2.1 262 v = croF S L.1 (sagN (h.2.1 254 4) (S.1.1 - 1) (moveF S.1.1 (feetF S R L x) L.1)) (h.2.1 262) v) → Q (some (.int (nI (cnN S L.1 (sagN (h.2.1 254 4) (S.1.1 - 1) (moveF S.1.1 (feetF S R L x) L.1)) S.1.2.1)))) h') : jx_Ev (d + 6) bc bs 12058 62 [some (.ref 253), some (.int x), x2] [] h Q := by
  have w8 := wS.2.1
  refine je_iconst (pc := 62) (v := 0) d12058_62 rfl ?_
  refine ju_istore2 (pc := 63) (lv' := [some _, some _, some _]) d12058_63 rfl rfl ?_
  refine je_loop (σ := Unit) (S.1.1) (fun k xx => [some (.ref 253), some (.int x), some (.int (nI k))]) (fun k _ h' => fC (fun b => b = 290) h h' ∧ ∀ m, m < k → h'.2.1 290 m = feetF S R L x m) (fun k xx h' hk e kk => ?_) (fun xx h' e => ?_) (0) () h (by omega) ⟨fC.rf, fun m hm => absurd hm (Nat.not_lt_zero m)⟩
  · obtain ⟨e1, e2⟩ := e
    have H1 := e1.St H
    have C1 : mLaw h' S R := C.fr (fun b hb => e1.2 b (by omega)) (fun j hj => by rw [e1.2 254 (by omega)])
    have hS1 := C1.1
    have hL1 : mLa h'.2.1 L := hL.of (e1.2 _ (by omega)) (e1.2 _ (by omega)) (e1.2 _ (by omega)) (e1.2 _ (by omega)) (by rw [e1.2 254 (by omega)]) (by rw [e1.2 254 (by omega)])
    have b4 : h'.2.1 254 4 = L.2.2.2.2.1 := hL1.2.2.1
    refine je_iload2 (pc := 64) d12058_64 rfl ?_
    refine je_aload0 (pc := 65) d12058_65 rfl ?_
    refine ju_getr (pc := 66) (b := 254) d12058_66 jF_12_9 rfl (sK253 H1) (sR253_1 H1) ?_
    refine je_iconst (pc := 69) (v := 0) d12058_69 rfl ?_
    refine ju_iald (pc := 70) (jn := 0) d12058_70 (sK254 H1) (by first | assumption | exact jx_ok_dec (by decide)) (by decide) ?_
    refine ju_eqi (v := nI S.1.1) hS1.1.1 ?_
    refine jn_icge (pc := 71) (a := (k)) (b := (S.1.1)) 104 d12058_71 (by decide) (by omega) (by omega) (fun c71 => by exfalso; omega) (fun c71 => ?_)
    refine je_aload0 (pc := 74) d12058_74 rfl ?_
    refine ju_getr (pc := 75) (b := 290) d12058_75 jF_12_124 rfl (sK253 H1) (sR253_47 H1) ?_
    refine je_iload2 (pc := 78) d12058_78 rfl ?_
    refine je_aload0 (pc := 79) d12058_79 rfl ?_
    refine je_iload2 (pc := 80) d12058_80 rfl ?_
    refine ju_callv (pc := 81) (as := [_]) d12058_81 jL_12_182 jM_Mo_isBaked rfl (by decide) (sK253 H1) rfl (by exact Nat.le_of_ble_eq_true rfl) (t_Mo_isBaked (d + 3) H1 _) (fun r81 h81 q81 => ?_)
    obtain ⟨rfl, e81⟩ := q81
    obtain rfl := e81.symm
    refine jb_ifeq (pc := 84) 91 d12058_84 (by decide) (fun c84 => ?_) (fun c84 => ?_)
    · refine je_aload0 (pc := 91) d12058_91 rfl ?_
      refine je_iload2 (pc := 92) d12058_92 rfl ?_
      refine je_iload1 (pc := 93) d12058_93 rfl ?_
      refine ju_callv (pc := 94) (as := [_, _]) d12058_94 jL_12_427 jM_Mo_creepOf rfl (by decide) (sK253 H1) rfl (by exact Nat.le_of_ble_eq_true rfl) (mo_creep d H1 C1 wS hL1 hk hmi (by rw [b4] at c84; exact c84) x) (fun r94 h94 q94 => ?_)
      obtain ⟨rfl, f1⟩ := q94
      have H2 := f1.St H1
      refine ju_iast (pc := 97) (jn := (k)) d12058_97 (sK290 H2) (vp_in_nI (by omega) (by decide)) (nI_clamp (by omega)) ?_
      refine ju_incN (pc := 98) (v := nI ((k) + 1)) (lv' := [some _, some _, some _]) d12058_98 rfl (nI_1 (k)) rfl ?_
      refine je_goto (pc := 101) 64 d12058_101 (by decide) ?_
      refine kk () _ ⟨(e1.tr (f1.mo (fun _ z => z.elim))).wI rfl, fun m hm => ?_⟩
      rw [wI_at]
      by_cases c : m = k
      · subst c
        rw [jx_up_self]
        unfold feetF
        rw [if_neg (by rw [b4] at c84; exact c84)]
      · rw [jx_up_ne _ _ c, f1.2 290 (fun z => z)]
        exact e2 m (by omega)
    · refine je_iconst (pc := 87) (v := 0) d12058_87 rfl ?_
      refine je_goto (pc := 88) 97 d12058_88 (by decide) ?_
      refine ju_iast (pc := 97) (jn := (k)) d12058_97 (sK290 H1) (vp_in_nI (by omega) (by decide)) (nI_clamp (by omega)) ?_
      refine ju_incN (pc := 98) (v := nI ((k) + 1)) (lv' := [some _, some _, some _]) d12058_98 rfl (nI_1 (k)) rfl ?_
      refine je_goto (pc := 101) 64 d12058_101 (by decide) ?_
      refine kk () _ ⟨e1.wI rfl, fun m hm => ?_⟩
      rw [wI_at]
      by_cases c : m = k
      · subst c
        rw [jx_up_self]
        unfold feetF
        rw [if_pos (by rw [b4] at c84; exact c84)]
      · rw [jx_up_ne _ _ c]
        exact e2 m (by omega)
  · obtain ⟨e1, e2⟩ := e
    have H1 := e1.St H
    have C1 : mLaw h' S R := C.fr (fun b hb => e1.2 b (by omega)) (fun j hj => by rw [e1.2 254 (by omega)])
    have hS1 := C1.1
    have hL1 : mLa h'.2.1 L := hL.of (e1.2 _ (by omega)) (e1.2 _ (by omega)) (e1.2 _ (by omega)) (e1.2 _ (by omega)) (by rw [e1.2 254 (by omega)]) (by rw [e1.2 254 (by omega)])
    have b4 : h'.2.1 254 4 = L.2.2.2.2.1 := hL1.2.2.1
    refine je_iload2 (pc := 64) d12058_64 rfl ?_
    refine je_aload0 (pc := 65) d12058_65 rfl ?_
    refine ju_getr (pc := 66) (b := 254) d12058_66 jF_12_9 rfl (sK253 H1) (sR253_1 H1) ?_
    refine je_iconst (pc := 69) (v := 0) d12058_69 rfl ?_
    refine ju_iald (pc := 70) (jn := 0) d12058_70 (sK254 H1) (by first | assumption | exact jx_ok_dec (by decide)) (by decide) ?_
    refine ju_eqi (v := nI S.1.1) hS1.1.1 ?_
    refine jn_icge (pc := 71) (a := ((S.1.1))) (b := (S.1.1)) 104 d12058_71 (by decide) (by omega) (by omega) (fun c71 => ?_) (fun c71 => by exfalso; omega)
    have b5 : h'.2.1 254 = h.2.1 254 := e1.2 254 (by omega)
    refine mo_t3 (l0 := L.1) H1 hS1 wS h0 hmi (fun m hm => (hL1.1 m hm).1) e2 (fun v hv => by rw [e1.2 291 (by omega)]; exact hy v hv) x _ (fun h2 q1 q2 q3 q4 q5 => ?_)
    rw [b5] at q4 q5 ⊢
    rw [b5] at q3
    rw [e1.2 262 (by omega)] at q5
    exact hQ h2 ((e1.mo (fun b hb => by omega)).tr (q1.mo (fun b hb => by omega))) (fun j hj => by rw [q2 j hj, b5]) q3 q4 q5
set_option maxHeartbeats 4000000 in
theorem t_Mo_nightOf (d : Nat) {bc bs : Nat} {h : jx_H} {S : MS} {R : Option MR} {L : ML} (H : jx_St h) (C : mLaw h S R) (wS : wfS S) (h0 : 0 < S.1.1) (hmi : S.1.1 ≤ 10) (hL : mLa h.2.1 L) (x : Int32) : jx_Tr (d + 6) bc bs 12058 [.ref 253, .int x] h (fun r h' => r = some (.int (nI (cnN S L.1 (linF S R x L) S.1.2.1))) ∧ fN h h' ∧ mLa h'.2.1 (nightF S R x L)) := by
  refine jx_tr jM_Mo_nightOf rfl rfl (lv := [some (.ref 253), some (.int x), none]) rfl ?_
  have w8 := wS.2.1
  refine je_aload0 (pc := 0) d12058_0 rfl ?_
  refine ju_callv (pc := 1) (as := []) d12058_1 jL_12_424 jM_Mo_notesSides rfl (by decide) (sK253 H) rfl (by exact Nat.le_of_ble_eq_true rfl) (t_Mo_notesSides (d + 3) (S := S) (l := L.1) H C.1 wS (fun m hm => (hL.1 m hm).1)) (fun r1 h1 q1 => ?_)
  obtain ⟨rfl, f1, f2⟩ := q1
  have H0 := f1.St H
  have C0 : mLaw h1 S R := C.fr (fun b hb => f1.2 b (by omega)) (fun j hj => by rw [f1.2 254 (by omega)])
  have L0 : mLa h1.2.1 L := hL.of (f1.2 _ (by omega)) (f1.2 _ (by omega)) (f1.2 _ (by omega)) (f1.2 _ (by omega)) (by rw [f1.2 254 (by omega)]) (by rw [f1.2 254 (by omega)])
  refine je_iconst (pc := 4) (v := 0) d12058_4 rfl ?_
  refine ju_istore2 (pc := 5) (lv' := [some _, some _, some _]) d12058_5 rfl rfl ?_
  refine je_loop (σ := Unit) (S.1.1) (fun k xx => [some (.ref 253), some (.int x), some (.int (nI k))]) (fun k _ h' => fC (fun b => b = 256) h1 h' ∧ ∀ m, m < 10 → h'.2.1 256 m = riseF k L.2.2.2.2.1 x L.2.1 m) (fun k xx h' hk e kk => ?_) (fun xx h' e => ?_) (0) () h1 (by omega) ⟨fC.rf, fun m hm => ((L0.1 m hm).2.1).trans (riseF_k (Nat.zero_le m)).symm⟩
  · obtain ⟨e1, e2⟩ := e
    have H1 := e1.St H0
    have C1 : mLaw h' S R := C0.fr (fun b hb => e1.2 b (by omega)) (fun j hj => by rw [e1.2 254 (by omega)])
    have hS1 := C1.1
    have b4 : h'.2.1 254 4 = L.2.2.2.2.1 := by rw [e1.2 254 (by omega)]; exact L0.2.2.1
    refine je_iload2 (pc := 6) d12058_6 rfl ?_
    refine je_aload0 (pc := 7) d12058_7 rfl ?_
    refine ju_getr (pc := 8) (b := 254) d12058_8 jF_12_9 rfl (sK253 H1) (sR253_1 H1) ?_
    refine je_iconst (pc := 11) (v := 0) d12058_11 rfl ?_
    refine ju_iald (pc := 12) (jn := 0) d12058_12 (sK254 H1) (by first | assumption | exact jx_ok_dec (by decide)) (by decide) ?_
    refine ju_eqi (v := nI S.1.1) hS1.1.1 ?_
    refine jn_icge (pc := 13) (a := (k)) (b := (S.1.1)) 62 d12058_13 (by decide) (by omega) (by omega) (fun c13 => by exfalso; omega) (fun c13 => ?_)
    refine je_aload0 (pc := 16) d12058_16 rfl ?_
    refine je_iload2 (pc := 17) d12058_17 rfl ?_
    refine ju_callv (pc := 18) (as := [_]) d12058_18 jL_12_182 jM_Mo_isBaked rfl (by decide) (sK253 H1) rfl (by exact Nat.le_of_ble_eq_true rfl) (t_Mo_isBaked (d + 3) H1 _) (fun r18 h18 q18 => ?_)
    obtain ⟨rfl, e18⟩ := q18
    obtain rfl := e18.symm
    refine jb_ifne (pc := 21) 56 d12058_21 (by decide) (fun c21 => ?_) (fun c21 => ?_)
    · refine ju_incN (pc := 56) (v := nI ((k) + 1)) (lv' := [some _, some _, some _]) d12058_56 rfl (nI_1 (k)) rfl ?_
      refine je_goto (pc := 59) 6 d12058_59 (by decide) ?_
      rw [b4] at c21
      exact kk () _ ⟨e1, fun m hm => (e2 m hm).trans (riseF_b c21 m)⟩
    · refine je_aload0 (pc := 24) d12058_24 rfl ?_
      refine ju_getr (pc := 25) (b := 256) d12058_25 jF_12_16 rfl (sK253 H1) (sR253_3 H1) ?_
      refine je_iload2 (pc := 28) d12058_28 rfl ?_
      refine je_aload0 (pc := 29) d12058_29 rfl ?_
      refine ju_getr (pc := 30) (b := 256) d12058_30 jF_12_16 rfl (sK253 H1) (sR253_3 H1) ?_
      refine je_iload2 (pc := 33) d12058_33 rfl ?_
      refine ju_iald (pc := 34) (jn := (k)) d12058_34 (sK256 H1) (vp_in_nI (by omega) (by decide)) (nI_clamp (by omega)) ?_
      refine ju_eqi (v := L.2.1 k) (by rw [e2 k (by omega)]; exact riseF_k (Nat.le_refl k)) ?_
      refine je_iload1 (pc := 35) d12058_35 rfl ?_
      refine je_iadd (pc := 36) d12058_36 ?_
      refine je_bipush (pc := 37) (v := 99) d12058_37 rfl ?_
      refine ju_tern2 (pc := 39) (V := (if 99 < L.2.1 k + x then 99 else L.2.1 k + x)) 55 ?_ (fun jn39 => ?_)
      · refine ju_iast (pc := 55) (jn := (k)) d12058_55 (sK256 H1) (vp_in_nI (by omega) (by decide)) (nI_clamp (by omega)) ?_
        refine ju_incN (pc := 56) (v := nI ((k) + 1)) (lv' := [some _, some _, some _]) d12058_56 rfl (nI_1 (k)) rfl ?_
        refine je_goto (pc := 59) 6 d12058_59 (by decide) ?_
        rw [b4] at c21
        refine kk () _ ⟨e1.wI rfl, fun m hm => ?_⟩
        rw [wI_at, ← riseF_s c21 m]
        unfold jx_up
        rw [e2 m hm]
      · refine ju_icle (pc := 39) 47 d12058_39 (by decide) (fun c39 => ?_) (fun c39 => ?_)
        · refine je_aload0 (pc := 47) d12058_47 rfl ?_
          refine ju_getr (pc := 48) (b := 256) d12058_48 jF_12_16 rfl (sK253 H1) (sR253_3 H1) ?_
          refine je_iload2 (pc := 51) d12058_51 rfl ?_
          refine ju_iald (pc := 52) (jn := (k)) d12058_52 (sK256 H1) (vp_in_nI (by omega) (by decide)) (nI_clamp (by omega)) ?_
          refine ju_eqi (v := L.2.1 k) (by rw [e2 k (by omega)]; exact riseF_k (Nat.le_refl k)) ?_
          refine je_iload1 (pc := 53) d12058_53 rfl ?_
          refine je_iadd (pc := 54) d12058_54 ?_
          refine ju_eqi (v := (if 99 < L.2.1 k + x then 99 else L.2.1 k + x)) (by rw [if_neg c39]) ?_
          exact jn39
        · refine je_bipush (pc := 42) (v := 99) d12058_42 rfl ?_
          refine je_goto (pc := 44) 55 d12058_44 (by decide) ?_
          refine ju_eqi (v := (if 99 < L.2.1 k + x then 99 else L.2.1 k + x)) (by rw [if_pos c39]) ?_
          exact jn39
  · obtain ⟨e1, e2⟩ := e
    have H1 := e1.St H0
    have C1 : mLaw h' S R := C0.fr (fun b hb => e1.2 b (by omega)) (fun j hj => by rw [e1.2 254 (by omega)])
    have hS1 := C1.1
    have b4 : h'.2.1 254 4 = L.2.2.2.2.1 := by rw [e1.2 254 (by omega)]; exact L0.2.2.1
    refine je_iload2 (pc := 6) d12058_6 rfl ?_
    refine je_aload0 (pc := 7) d12058_7 rfl ?_
    refine ju_getr (pc := 8) (b := 254) d12058_8 jF_12_9 rfl (sK253 H1) (sR253_1 H1) ?_
    refine je_iconst (pc := 11) (v := 0) d12058_11 rfl ?_
    refine ju_iald (pc := 12) (jn := 0) d12058_12 (sK254 H1) (by first | assumption | exact jx_ok_dec (by decide)) (by decide) ?_
    refine ju_eqi (v := nI S.1.1) hS1.1.1 ?_
    refine jn_icge (pc := 13) (a := ((S.1.1))) (b := (S.1.1)) 62 d12058_13 (by decide) (by omega) (by omega) (fun c13 => ?_) (fun c13 => by exfalso; omega)
    have g0 : fC (fun b => b = 291 ∨ b = 256) h h' := (f1.mo (fun b hb => by omega)).tr (e1.mo (fun b hb => by omega))
    have hL1 : mLa h'.2.1 (risL S x L) := by
      refine ⟨fun m hm => ⟨?_, e2 m hm, ?_⟩, fun v hv => ?_, b4, ?_⟩
      · rw [g0.2 255 (by omega)]; exact (hL.1 m hm).1
      · rw [g0.2 257 (by omega)]; exact (hL.1 m hm).2.2
      · rw [g0.2 262 (by omega)]; exact hL.2.1 v hv
      · rw [g0.2 254 (by omega)]; exact hL.2.2.2
    refine mo_t2 (L := risL S x L) H1 C1 wS h0 hmi hL1 (fun v hv => by rw [e1.2 291 (by omega)]; exact f2 v hv) x _ (fun h2 q1 q2 q3 q4 q5 => ?_)
    rw [b4] at q4 q5 ⊢
    have g1 : fC (fun b => (254 ≤ b ∧ b ≤ 256) ∨ b = 262 ∨ b = 290 ∨ b = 291) h h2 := (g0.mo (fun b hb => by omega)).tr (q1.mo (fun b hb => by omega))
    have g2 : ∀ j, j ≠ 5 → h2.2.1 254 j = h.2.1 254 j := fun j hj => by rw [q2 j hj, g0.2 254 (by omega)]
    refine ⟨rfl, ⟨g1, g2⟩, fun m hm => ⟨q4 m hm, ?_, ?_⟩, fun v hv => ?_, ?_, ?_⟩
    · rw [q1.2 256 (by omega)]; exact e2 m hm
    · rw [g1.2 257 (by omega)]; exact (hL.1 m hm).2.2
    · refine (q5 v hv).trans ?_
      show croF S L.1 _ (h'.2.1 262) v = croF S L.1 _ L.2.2.2.1 v
      unfold croF
      rw [g0.2 262 (by omega), hL.2.1 v hv]
      rfl
    · rw [g2 4 (by decide)]; exact hL.2.2.1
    · rw [q3, g0.2 254 (by omega), hL.2.2.2]
      rfl
theorem wmM {I : Nat → Nat → Int32} {S : MS} (hS : mSt I S) {x : Int32} (hx : ¬ x < 0) : (if x < 100 then I 258 x.toNatClampNeg else 0) = warmF S x := by
  unfold warmF
  by_cases c : x < 100
  · rw [if_pos c, if_pos ⟨hx, c⟩]
    obtain ⟨j, hj, rfl⟩ := nI_of hx
    rw [nI_clamp hj]
    exact hS.2.1 j ((nI_ltI (b := 100) hj (by decide)).mp c)
  · rw [if_neg c, if_neg (fun z => c z.2)]
set_option maxHeartbeats 2000000 in
theorem t_Mo_goesNight (d : Nat) {bc bs : Nat} {h : jx_H} {S : MS} {R : Option MR} {L : ML} {nn : Nat} (H : jx_St h) (C : mLaw h S R) (wS : wfS S) (h0 : 0 < S.1.1) (hmi : S.1.1 ≤ 10) (hL : mLa h.2.1 L) (hN : L.2.2.2.2.2 = nI nn) (hn : nn < 2 ^ 31) : jx_Tr (d + 7) bc bs 12057 [.ref 253] h (fun r h' => r = some (.int (nI (cnN S L.1 (linF S R (warmF S L.2.2.2.2.2) L) S.1.2.1))) ∧ fN h h' ∧ mLa h'.2.1 (nightF S R (warmF S L.2.2.2.2.2) L)) := by
  refine jx_tr jM_Mo_goesNight rfl rfl (lv := [some (.ref 253)]) rfl ?_
  refine je_aload0 (pc := 0) d12057_0 rfl ?_
  refine je_aload0 (pc := 1) d12057_1 rfl ?_
  refine je_aload0 (pc := 2) d12057_2 rfl ?_
  refine ju_getr (pc := 3) (b := 254) d12057_3 jF_12_9 rfl (sK253 H) (sR253_1 H) ?_
  refine je_iconst (pc := 6) (v := 5) d12057_6 rfl ?_
  refine ju_iald (pc := 7) (jn := 5) d12057_7 (sK254 H) (by first | assumption | exact jx_ok_dec (by decide)) (by decide) ?_
  refine ju_eqi (v := L.2.2.2.2.2) hL.2.2.2 ?_
  refine ju_callv (pc := 8) (as := [_]) d12057_8 jL_12_403 jM_Mo_warmthOf rfl (by decide) (sK253 H) rfl (by exact Nat.le_of_ble_eq_true rfl) (t_Mo_warmthOf (d + 5) H _ (by rw [hN]; exact nI_pos hn)) (fun r8 h8 q8 => ?_)
  obtain ⟨rfl, e8⟩ := q8
  obtain rfl := e8.symm
  refine ju_eqi (v := warmF S L.2.2.2.2.2) (wmM C.1 (by rw [hN]; exact nI_pos hn)) ?_
  refine ju_callv (pc := 11) (as := [_]) d12057_11 jL_12_436 jM_Mo_nightOf rfl (by decide) (sK253 H) rfl (by exact Nat.le_of_ble_eq_true rfl) (t_Mo_nightOf d H C wS h0 hmi hL _) (fun r11 h11 q11 => ?_)
  obtain ⟨rfl, f1, f2⟩ := q11
  refine je_iret (pc := 14) d12057_14 rfl ?_
  exact ⟨rfl, f1, f2⟩
