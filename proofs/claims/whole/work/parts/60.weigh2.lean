/-! weigh: the model, the whole -/
/-- the counts of the model, up to a place -/
def mAl (h : jx_H) (S : MS) (z : Int32) (n : Nat) (F : Nat → Bool) (t : Nat) : Prop := ∀ q, q < S.1.1 → ∀ e, e < 100 → h.2.1 300 (100 * q + e) = nI (alN F (dvN S z n q) t e)
set_option maxHeartbeats 4000000 in
theorem mo_wq {d bc bs n t : Nat} {h : jx_H} {Q : Option Value → jx_H → Prop} {z : Int32} {S : MS} {lg : Nat} {ln lm ld : Nat → Int32}  (H : jx_St h) (hS : mSt h.2.1 S) (wS : wfS S) (hmi : S.1.1 ≤ 10) (hn : n ≤ 30) (hz : ¬ z < 1) (hF : ftB S z ln lm ld lg t = true) (hc : ∀ m, m < S.1.1 → ∀ n, n < 31 → h.2.1 299 (31 * m + n) = dbI S z (t / 30) (t % 30) m n) (ha : mAl h S z n (ftB S z ln lm ld lg) t) (ht : t < 300) (v3 v4 v5 v6 : Int32) (x7 : Option Value)
  (hK : ∀ h', fC (fun b => b = 300) h h' → mAl h' S z n (ftB S z ln lm ld lg) (t + 1) → jx_Ev (d + 4) bc bs 12102 159 [some (.ref 253), some (.int z), some (.int (nI n)), some (.int v3), some (.int v4), some (.int v5), some (.int v6), some (.int (nI S.1.1)), none, none] [] h' Q) : jx_Ev (d + 4) bc bs 12102 112 [some (.ref 253), some (.int z), some (.int (nI n)), some (.int v3), some (.int v4), some (.int v5), some (.int v6), x7, none, none] [] h Q := by
  refine je_iconst (pc := 112) (v := 0) d12102_112 rfl ?_
  refine ju_istore (pc := 113) (lv' := [some _, some _, some _, some _, some _, some _, some _, some _, none, none]) d12102_113 rfl rfl ?_
  refine je_loop (σ := Unit) (S.1.1) (fun k xx => [some (.ref 253), some (.int z), some (.int (nI n)), some (.int v3), some (.int v4), some (.int v5), some (.int v6), some (.int (nI k)), none, none]) (fun k _ h' => fC (fun b => b = 300) h h' ∧ ∀ q, q < S.1.1 → ∀ e, e < 100 → h'.2.1 300 (100 * q + e) = nI (alN (ftB S z ln lm ld lg) (dvN S z n q) t e + (if q < k ∧ dvN S z n q t = e then 1 else 0))) (fun k xx h' hk e kk => ?_) (fun xx h' e => ?_) (0) () h (by omega) ⟨fC.rf, fun q hq e he => by rw [if_neg (fun y => Nat.not_lt_zero q y.1), Nat.add_zero]; exact ha q hq e he⟩
  · obtain ⟨e1, e2⟩ := e
    have H1 := e1.St H
    have hm1 : h'.2.1 254 0 = nI S.1.1 := by rw [e1.2 254 (by omega)]; exact hS.1.1
    obtain ⟨v1, v2⟩ := dv_ok wS hz (n := n) (m := k) (by omega) hF
    have al := fa_cnt_le (fun i => ftB S z ln lm ld lg i && decide (dvN S z n k i = dvN S z n k t)) t
    have e3 := e2 k hk (dvN S z n k t) (by omega)
    rw [if_neg (fun y => Nat.lt_irrefl k y.1), Nat.add_zero] at e3
    refine je_iload (pc := 115) d12102_115 rfl ?_
    refine je_aload0 (pc := 117) d12102_117 rfl ?_
    refine ju_getr (pc := 118) (b := 254) d12102_118 jF_12_9 rfl (sK253 H1) (sR253_1 H1) ?_
    refine je_iconst (pc := 121) (v := 0) d12102_121 rfl ?_
    refine ju_iald (pc := 122) (jn := 0) d12102_122 (sK254 H1) (by first | assumption | exact jx_ok_dec (by decide)) (by decide) ?_
    refine ju_eqi (v := nI S.1.1) hm1 ?_
    refine jn_icge (pc := 123) (a := (k)) (b := (S.1.1)) 159 d12102_123 (by decide) (by omega) (by omega) (fun c123 => by exfalso; omega) (fun c123 => ?_)
    refine je_aload0 (pc := 126) d12102_126 rfl ?_
    refine ju_getr (pc := 127) (b := 300) d12102_127 jF_12_154 rfl (sK253 H1) (sR253_62 H1) ?_
    refine je_bipush (pc := 130) (v := 100) d12102_130 rfl ?_
    refine je_iload (pc := 132) d12102_132 rfl ?_
    refine je_imul (pc := 134) d12102_134 ?_
    refine ju_eqi (v := nI (100 * (k))) (pk_mul 100 (k)) ?_
    refine je_aload0 (pc := 135) d12102_135 rfl ?_
    refine ju_getr (pc := 136) (b := 299) d12102_136 jF_12_151 rfl (sK253 H1) (sR253_60 H1) ?_
    refine je_bipush (pc := 139) (v := 31) d12102_139 rfl ?_
    refine je_iload (pc := 141) d12102_141 rfl ?_
    refine je_imul (pc := 143) d12102_143 ?_
    refine ju_eqi (v := nI (31 * (k))) (pk_mul 31 (k)) ?_
    refine je_iload2 (pc := 144) d12102_144 rfl ?_
    refine je_iadd (pc := 145) d12102_145 ?_
    refine ju_eqi (v := nI ((31 * (k)) + (n))) (nI_add (31 * (k)) (n)) ?_
    refine ju_iald (pc := 146) (jn := ((31 * (k)) + (n))) d12102_146 (sK299 H1) (vp_in_nI (by omega) (by decide)) (nI_clamp (by omega)) ?_
    refine ju_eqi (v := nI (dvN S z n k t)) (by rw [e1.2 299 (by omega)]; exact (hc k hk n (by omega)).trans v2) ?_
    refine je_iadd (pc := 147) d12102_147 ?_
    refine ju_eqi (v := nI ((100 * (k)) + (dvN S z n k t))) (nI_add (100 * (k)) (dvN S z n k t)) ?_
    refine je_dup2 (pc := 148) d12102_148 rfl rfl ?_
    refine ju_iald (pc := 149) (jn := ((100 * (k)) + (dvN S z n k t))) d12102_149 (sK300 H1) (vp_in_nI (by omega) (by decide)) (nI_clamp (by omega)) ?_
    refine ju_eqi (v := nI (alN (ftB S z ln lm ld lg) (dvN S z n k) t (dvN S z n k t))) e3 ?_
    refine je_iconst (pc := 150) (v := 1) d12102_150 rfl ?_
    refine je_iadd (pc := 151) d12102_151 ?_
    refine ju_eqi (v := nI ((alN (ftB S z ln lm ld lg) (dvN S z n k) t (dvN S z n k t)) + 1)) (nI_add (alN (ftB S z ln lm ld lg) (dvN S z n k) t (dvN S z n k t)) 1) ?_
    refine ju_iast (pc := 152) (jn := ((100 * (k)) + (dvN S z n k t))) d12102_152 (sK300 H1) (vp_in_nI (by omega) (by decide)) (nI_clamp (by omega)) ?_
    refine ju_incN (pc := 153) (v := nI ((k) + 1)) (lv' := [some _, some _, some _, some _, some _, some _, some _, some _, none, none]) d12102_153 rfl (nI_1 (k)) rfl ?_
    refine je_goto (pc := 156) 115 d12102_156 (by decide) ?_
    refine kk () _ ⟨e1.wI rfl, fun q hq e he => ?_⟩
    rw [wI_at]
    by_cases c : q = k
    · subst c
      by_cases c2 : e = dvN S z n q t
      · subst c2
        rw [jx_up_self, if_pos ⟨by omega, rfl⟩]
      · rw [jx_up_ne _ _ (by omega), e2 q hq e he, if_neg (fun y => Nat.lt_irrefl q y.1), if_neg (fun y => c2 y.2.symm)]
    · rw [jx_up_ne _ _ (by omega), e2 q hq e he]
      have : q < k + 1 ↔ q < k := by omega
      simp only [this]
  · obtain ⟨e1, e2⟩ := e
    have H1 := e1.St H
    have hm1 : h'.2.1 254 0 = nI S.1.1 := by rw [e1.2 254 (by omega)]; exact hS.1.1
    refine je_iload (pc := 115) d12102_115 rfl ?_
    refine je_aload0 (pc := 117) d12102_117 rfl ?_
    refine ju_getr (pc := 118) (b := 254) d12102_118 jF_12_9 rfl (sK253 H1) (sR253_1 H1) ?_
    refine je_iconst (pc := 121) (v := 0) d12102_121 rfl ?_
    refine ju_iald (pc := 122) (jn := 0) d12102_122 (sK254 H1) (by first | assumption | exact jx_ok_dec (by decide)) (by decide) ?_
    refine ju_eqi (v := nI S.1.1) hm1 ?_
    refine jn_icge (pc := 123) (a := ((S.1.1))) (b := (S.1.1)) 159 d12102_123 (by decide) (by omega) (by omega) (fun c123 => ?_) (fun c123 => by exfalso; omega)
    refine hK _ e1 (fun q hq e he => ?_)
    rw [e2 q hq e he]
    unfold alN
    rw [fa_cnt, hF, Bool.true_and]
    simp only [hq, true_and, decide_eq_true_eq]
set_option maxHeartbeats 4000000 in
theorem mo_wb {d bc bs n a : Nat} {h : jx_H} {Q : Option Value → jx_H → Prop} {z : Int32} {S : MS} {lg : Nat} {ln lm ld : Nat → Int32} (H : jx_St h) (q0 : mFit h S lg ln lm ld) (wS : wfS S) (hmi : S.1.1 ≤ 10) (hlg : lg ≤ 10) (wl : ∀ k, k < lg → (∃ x, x ≤ 30 ∧ ln k = nI x) ∧ (∃ m, m < S.1.1 ∧ lm k = nI m) ∧ ∃ e, e ≤ 99 ∧ ld k = nI e) (ha : a < S.1.1) (hn : n ≤ 30) (hz : ¬ z < 1) (hA : mAl h S z n (ftB S z ln lm ld lg) (30 * a)) (v3 : Int32) (x6 x7 : Option Value)
  (hK : ∀ h' x7, fth h h' → mAl h' S z n (ftB S z ln lm ld lg) (30 * (a + 1)) → jx_Ev (d + 4) bc bs 12102 165 [some (.ref 253), some (.int z), some (.int (nI n)), some (.int v3), some (.int (nI (fa_cnt (ftB S z ln lm ld lg) (30 * (a + 1))))), some (.int (nI a)), some (.int (nI 30)), x7, none, none] [] h' Q) : jx_Ev (d + 4) bc bs 12102 87 [some (.ref 253), some (.int z), some (.int (nI n)), some (.int v3), some (.int (nI (fa_cnt (ftB S z ln lm ld lg) (30 * a)))), some (.int (nI a)), x6, x7, none, none] [] h Q := by
  refine je_iconst (pc := 87) (v := 0) d12102_87 rfl ?_
  refine ju_istore (pc := 88) (lv' := [some _, some _, some _, some _, some _, some _, some _, _, none, none]) d12102_88 rfl rfl ?_
  refine je_loop (σ := Option Value) (30) (fun k xx => [some (.ref 253), some (.int z), some (.int (nI n)), some (.int v3), some (.int (nI (fa_cnt (ftB S z ln lm ld lg) (30 * a + k)))), some (.int (nI a)), some (.int (nI k)), xx, none, none]) (fun k _ h' => fth h h' ∧ mAl h' S z n (ftB S z ln lm ld lg) (30 * a + k)) (fun k xx h' hk e kk => ?_) (fun xx h' e => ?_) (0) x7 h (by omega) ⟨fth.rf, hA⟩
  · obtain ⟨e1, e2⟩ := e
    have H1 := e1.1.St H
    have cl := fa_cnt_le (ftB S z ln lm ld lg) (30 * a + k)
    have q1 : (30 * a + k) / 30 = a := by omega
    have q2 : (30 * a + k) % 30 = k := by omega
    refine je_iload (pc := 90) d12102_90 rfl ?_
    refine je_bipush (pc := 92) (v := 30) d12102_92 rfl ?_
    refine jn_icge (pc := 94) (a := (k)) (b := 30) 165 d12102_94 (by decide) (by omega) (by omega) (fun c94 => by exfalso; omega) (fun c94 => ?_)
    refine je_aload0 (pc := 97) d12102_97 rfl ?_
    refine je_iload (pc := 98) d12102_98 rfl ?_
    refine je_iload (pc := 100) d12102_100 rfl ?_
    refine je_iload1 (pc := 102) d12102_102 rfl ?_
    refine ju_callv (pc := 103) (as := [_, _, _]) d12102_103 jL_12_540 jM_Mo_doesFit rfl (by decide) (sK253 H1) rfl (by exact Nat.le_of_ble_eq_true rfl) (mo_fit d (z := z) H1 (q0.fr e1) wS hmi hlg wl (a := a) (b := k) ha (by omega)) (fun r103 h103 q103 => ?_)
    obtain ⟨rfl, f1, f2, f3⟩ := q103
    have H2 := f1.1.St H1
    refine jb_ifeq (pc := 106) 159 d12102_106 (by decide) (fun c106 => ?_) (fun c106 => ?_)
    · refine ju_incN (pc := 159) (v := nI ((k) + 1)) (lv' := [some _, some _, some _, some _, some _, some _, some _, _, none, none]) d12102_159 rfl (nI_1 (k)) rfl ?_
      refine je_goto (pc := 162) 90 d12102_162 (by decide) ?_
      have ff : ftB S z ln lm ld lg (30 * a + k) = false := Bool.eq_false_iff.mpr c106
      rw [show fa_cnt (ftB S z ln lm ld lg) (30 * a + k) = fa_cnt (ftB S z ln lm ld lg) (30 * a + (k + 1)) from (fa_cnt_no ff).symm]
      refine kk xx _ ⟨e1.tr f1, fun q hq e he => ?_⟩
      rw [f3, e2 q hq e he]
      exact congrArg nI (fa_cnt_no (p := fun i => ftB S z ln lm ld lg i && decide (dvN S z n q i = e)) (n := 30 * a + k) (by rw [ff]; rfl)).symm
    · refine ju_incN (pc := 109) (v := nI ((fa_cnt (ftB S z ln lm ld lg) (30 * a + k)) + 1)) (lv' := [some _, some _, some _, some _, some _, some _, some _, _, none, none]) d12102_109 rfl (nI_1 (fa_cnt (ftB S z ln lm ld lg) (30 * a + k))) rfl ?_
      refine mo_wq (t := 30 * a + k) (lg := lg) (ln := ln) (lm := lm) (ld := ld) H2 ((q0.fr e1).fr f1).1 wS hmi hn hz c106 (by rw [q1, q2]; exact f2 c106) (fun q hq e he => by rw [f3]; exact e2 q hq e he) (by omega) _ _ _ _ _ (fun h3 g1 g2 => ?_)
      rw [show fa_cnt (ftB S z ln lm ld lg) (30 * a + k) + 1 = fa_cnt (ftB S z ln lm ld lg) (30 * a + (k + 1)) from (fa_cnt_yes c106).symm]
      refine ju_incN (pc := 159) (v := nI ((k) + 1)) (lv' := [some _, some _, some _, some _, some _, some _, some _, some _, none, none]) d12102_159 rfl (nI_1 (k)) rfl ?_
      refine je_goto (pc := 162) 90 d12102_162 (by decide) ?_
      exact kk (some _) _ ⟨(e1.tr f1).tr ⟨g1.mo (fun b hb => by omega), fun j _ => by rw [g1.2 253 (by omega)]⟩, g2⟩
  · obtain ⟨e1, e2⟩ := e
    refine je_iload (pc := 90) d12102_90 rfl ?_
    refine je_bipush (pc := 92) (v := 30) d12102_92 rfl ?_
    refine jn_icge (pc := 94) (a := ((30))) (b := 30) 165 d12102_94 (by decide) (by omega) (by omega) (fun c94 => ?_) (fun c94 => by exfalso; omega)
    have e3 : 30 * (a + 1) = 30 * a + 30 := by omega
    have := hK _ xx e1 (by rw [e3]; exact e2)
    rw [e3] at this
    exact this
theorem mxD_le (al : Nat → Nat) (B : Nat) (h : ∀ e, al e ≤ B) : ∀ N, mxD al N ≤ B
  | 0 => Nat.zero_le _
  | N + 1 => by rw [mxD]; split; exact h N; exact mxD_le al B h N
set_option maxHeartbeats 4000000 in
theorem mo_wd {d bc bs n m : Nat} {h : jx_H} {Q : Option Value → jx_H → Prop} {z : Int32} {S : MS} {lg : Nat} {ln lm ld : Nat → Int32}  (H : jx_St h) (hmi : S.1.1 ≤ 10) (hA : mAl h S z n (ftB S z ln lm ld lg) (30 * S.1.1)) (hm : m < S.1.1) (v3 v4 v5 v6 : Int32) (x8 x9 : Option Value)
  (hK : jx_Ev (d + 4) bc bs 12102 255 [some (.ref 253), some (.int z), some (.int (nI n)), some (.int v3), some (.int v4), some (.int v5), some (.int v6), some (.int (nI m)), some (.int (nI (mxD (alN (ftB S z ln lm ld lg) (dvN S z n m) (30 * S.1.1)) 100))), some (.int (nI 100))] [] h Q) : jx_Ev (d + 4) bc bs 12102 198 [some (.ref 253), some (.int z), some (.int (nI n)), some (.int v3), some (.int v4), some (.int v5), some (.int v6), some (.int (nI m)), x8, x9] [] h Q := by
  have cl := fa_cnt_le (ftB S z ln lm ld lg) (30 * S.1.1)
  refine je_iconst (pc := 198) (v := 0) d12102_198 rfl ?_
  refine ju_istore (pc := 199) (lv' := [some _, some _, some _, some _, some _, some _, some _, some _, some _, _]) d12102_199 rfl rfl ?_
  refine je_iconst (pc := 201) (v := 0) d12102_201 rfl ?_
  refine ju_istore (pc := 202) (lv' := [some _, some _, some _, some _, some _, some _, some _, some _, some _, some _]) d12102_202 rfl rfl ?_
  refine je_loop (σ := Unit) (100) (fun k xx => [some (.ref 253), some (.int z), some (.int (nI n)), some (.int v3), some (.int v4), some (.int v5), some (.int v6), some (.int (nI m)), some (.int (nI (mxD (alN (ftB S z ln lm ld lg) (dvN S z n m) (30 * S.1.1)) k))), some (.int (nI k))]) (fun _ _ h' => h' = h) (fun k xx h' hk e kk => ?_) (fun xx h' e => ?_) (0) () h (by omega) rfl
  · obtain rfl := e.symm
    have a1 := alN_le (ftB S z ln lm ld lg) (dvN S z n m) k (30 * S.1.1)
    have a2 := mxD_le (alN (ftB S z ln lm ld lg) (dvN S z n m) (30 * S.1.1)) (fa_cnt (ftB S z ln lm ld lg) (30 * S.1.1)) (fun e => alN_le (ftB S z ln lm ld lg) (dvN S z n m) e (30 * S.1.1)) k
    have e3 := hA m hm k hk
    refine je_iload (pc := 204) d12102_204 rfl ?_
    refine je_bipush (pc := 206) (v := 99) d12102_206 rfl ?_
    refine jn_icgt (pc := 208) (a := (k)) (b := 99) 255 d12102_208 (by decide) (by omega) (by omega) (fun c208 => by exfalso; omega) (fun c208 => ?_)
    refine je_aload0 (pc := 211) d12102_211 rfl ?_
    refine ju_getr (pc := 212) (b := 300) d12102_212 jF_12_154 rfl (sK253 H) (sR253_62 H) ?_
    refine je_bipush (pc := 215) (v := 100) d12102_215 rfl ?_
    refine je_iload (pc := 217) d12102_217 rfl ?_
    refine je_imul (pc := 219) d12102_219 ?_
    refine ju_eqi (v := nI (100 * (m))) (pk_mul 100 (m)) ?_
    refine je_iload (pc := 220) d12102_220 rfl ?_
    refine je_iadd (pc := 222) d12102_222 ?_
    refine ju_eqi (v := nI ((100 * (m)) + (k))) (nI_add (100 * (m)) (k)) ?_
    refine ju_iald (pc := 223) (jn := ((100 * (m)) + (k))) d12102_223 (sK300 H) (vp_in_nI (by omega) (by decide)) (nI_clamp (by omega)) ?_
    refine ju_eqi (v := nI (alN (ftB S z ln lm ld lg) (dvN S z n m) (30 * S.1.1) k)) e3 ?_
    refine je_iload (pc := 224) d12102_224 rfl ?_
    refine ju_tern2 (pc := 226) (V := nI (mxD (alN (ftB S z ln lm ld lg) (dvN S z n m) (30 * S.1.1)) (k + 1))) 247 ?_ (fun jn226 => ?_)
    · refine ju_istore (pc := 247) (lv' := [some _, some _, some _, some _, some _, some _, some _, some _, some _, some _]) d12102_247 rfl rfl ?_
      refine ju_incN (pc := 249) (v := nI ((k) + 1)) (lv' := [some _, some _, some _, some _, some _, some _, some _, some _, some _, some _]) d12102_249 rfl (nI_1 (k)) rfl ?_
      refine je_goto (pc := 252) 204 d12102_252 (by decide) ?_
      exact kk () _ rfl
    · refine jn_icle (pc := 226) (a := (alN (ftB S z ln lm ld lg) (dvN S z n m) (30 * S.1.1) k)) (b := (mxD (alN (ftB S z ln lm ld lg) (dvN S z n m) (30 * S.1.1)) k)) 245 d12102_226 (by decide) (by omega) (by omega) (fun c226 => ?_) (fun c226 => ?_)
      · refine je_iload (pc := 245) d12102_245 rfl ?_
        refine ju_eqi (v := nI (mxD (alN (ftB S z ln lm ld lg) (dvN S z n m) (30 * S.1.1)) (k + 1))) (by rw [mxD, if_neg (by omega)]) ?_
        exact jn226
      · refine je_aload0 (pc := 229) d12102_229 rfl ?_
        refine ju_getr (pc := 230) (b := 300) d12102_230 jF_12_154 rfl (sK253 H) (sR253_62 H) ?_
        refine je_bipush (pc := 233) (v := 100) d12102_233 rfl ?_
        refine je_iload (pc := 235) d12102_235 rfl ?_
        refine je_imul (pc := 237) d12102_237 ?_
        refine ju_eqi (v := nI (100 * (m))) (pk_mul 100 (m)) ?_
        refine je_iload (pc := 238) d12102_238 rfl ?_
        refine je_iadd (pc := 240) d12102_240 ?_
        refine ju_eqi (v := nI ((100 * (m)) + (k))) (nI_add (100 * (m)) (k)) ?_
        refine ju_iald (pc := 241) (jn := ((100 * (m)) + (k))) d12102_241 (sK300 H) (vp_in_nI (by omega) (by decide)) (nI_clamp (by omega)) ?_
        refine ju_eqi (v := nI (alN (ftB S z ln lm ld lg) (dvN S z n m) (30 * S.1.1) k)) e3 ?_
        refine je_goto (pc := 242) 247 d12102_242 (by decide) ?_
        refine ju_eqi (v := nI (mxD (alN (ftB S z ln lm ld lg) (dvN S z n m) (30 * S.1.1)) (k + 1))) (by rw [mxD, if_pos c226]) ?_
        exact jn226
  · obtain rfl := e.symm
    have a2 := mxD_le (alN (ftB S z ln lm ld lg) (dvN S z n m) (30 * S.1.1)) (fa_cnt (ftB S z ln lm ld lg) (30 * S.1.1)) (fun e => alN_le (ftB S z ln lm ld lg) (dvN S z n m) e (30 * S.1.1)) 100
    refine je_iload (pc := 204) d12102_204 rfl ?_
    refine je_bipush (pc := 206) (v := 99) d12102_206 rfl ?_
    refine jn_icgt (pc := 208) (a := ((100))) (b := 99) 255 d12102_208 (by decide) (by omega) (by omega) (fun c208 => ?_) (fun c208 => by exfalso; omega)
    exact hK
set_option maxHeartbeats 2000000 in
theorem t_Mo_weigh_n (d : Nat) {bc bs : Nat} {h : jx_H} (H : jx_St h) (x y u : Int32) (G : ¬ (0 < h.2.1 254 0 ∧ (¬ x < 1 ∧ ¬ 99 < x) ∧ (¬ y < 0 ∧ ¬ 30 < y) ∧ (¬ u < 0 ∧ ¬ 1 < u))) : jx_Tr (d + 5) bc bs 12102 [.ref 253, .int x, .int y, .int u] h (fun r h' => r = some (.int (-1)) ∧ h' = h) := by
  refine jx_tr jM_Mo_weigh rfl rfl (lv := [some (.ref 253), some (.int x), some (.int y), some (.int u), none, none, none, none, none, none]) rfl ?_
  refine je_aload0 (pc := 0) d12102_0 rfl ?_
  refine ju_callv (pc := 1) (as := []) d12102_1 jL_12_400 jM_Mo_isStrip rfl (by decide) (sK253 H) rfl (by exact Nat.le_of_ble_eq_true rfl) (t_Mo_isStrip (d + 3) H) (fun r1 h1 q1 => ?_)
  obtain ⟨rfl, e1⟩ := q1
  obtain rfl := e1.symm
  refine jb_ifeq (pc := 4) 41 d12102_4 (by decide) (fun c4 => ?_) (fun c4 => ?_)
  · refine je_iconst (pc := 41) (v := -1) d12102_41 rfl ?_
    refine je_iret (pc := 42) d12102_42 rfl ?_
    exact ⟨rfl, rfl⟩
  · refine je_iload1 (pc := 7) d12102_7 rfl ?_
    refine je_i2l (pc := 8) d12102_8 ?_
    refine je_lconst1 (pc := 9) d12102_9 ?_
    refine je_ldc2 (pc := 10) d12102_10 jK_12_473 ?_
    refine ju_calls (pc := 13) (as := [_, _, _]) d12102_13 jL_12_170 jM_Mo_in rfl rfl (by exact Nat.le_of_ble_eq_true rfl) (t_Mo_in (d + 3) _ _ _) (fun r13 h13 q13 => ?_)
    obtain ⟨rfl, e13⟩ := q13
    obtain rfl := e13.symm
    refine ju_eqi (v := b2 (¬ x < 1 ∧ ¬ 99 < x)) (in_1 x (n := 99) (by decide)) ?_
    refine jb_ifeq (pc := 16) 41 d12102_16 (by decide) (fun c16 => ?_) (fun c16 => ?_)
    · refine je_iconst (pc := 41) (v := -1) d12102_41 rfl ?_
      refine je_iret (pc := 42) d12102_42 rfl ?_
      exact ⟨rfl, rfl⟩
    · refine je_iload2 (pc := 19) d12102_19 rfl ?_
      refine je_i2l (pc := 20) d12102_20 ?_
      refine je_lconst0 (pc := 21) d12102_21 ?_
      refine je_ldc2 (pc := 22) d12102_22 jK_12_531 ?_
      refine ju_calls (pc := 25) (as := [_, _, _]) d12102_25 jL_12_170 jM_Mo_in rfl rfl (by exact Nat.le_of_ble_eq_true rfl) (t_Mo_in (d + 3) _ _ _) (fun r25 h25 q25 => ?_)
      obtain ⟨rfl, e25⟩ := q25
      obtain rfl := e25.symm
      refine ju_eqi (v := b2 (¬ y < 0 ∧ ¬ 30 < y)) (in_0 (y) (n := 30) (by decide)) ?_
      refine jb_ifeq (pc := 28) 41 d12102_28 (by decide) (fun c28 => ?_) (fun c28 => ?_)
      · refine je_iconst (pc := 41) (v := -1) d12102_41 rfl ?_
        refine je_iret (pc := 42) d12102_42 rfl ?_
        exact ⟨rfl, rfl⟩
      · refine je_iload3 (pc := 31) d12102_31 rfl ?_
        refine je_i2l (pc := 32) d12102_32 ?_
        refine je_lconst0 (pc := 33) d12102_33 ?_
        refine je_lconst1 (pc := 34) d12102_34 ?_
        refine ju_calls (pc := 35) (as := [_, _, _]) d12102_35 jL_12_170 jM_Mo_in rfl rfl (by exact Nat.le_of_ble_eq_true rfl) (t_Mo_in (d + 3) _ _ _) (fun r35 h35 q35 => ?_)
        obtain ⟨rfl, e35⟩ := q35
        obtain rfl := e35.symm
        refine ju_eqi (v := b2 (¬ u < 0 ∧ ¬ 1 < u)) (in_0 u (n := 1) (by decide)) ?_
        refine jb_ifne (pc := 38) 43 d12102_38 (by decide) (fun c38 => absurd c38 (fun q => G ⟨c4, c16, c28, q⟩)) (fun c38 => ?_)
        refine je_iconst (pc := 41) (v := -1) d12102_41 rfl ?_
        refine je_iret (pc := 42) d12102_42 rfl ?_
        exact ⟨rfl, rfl⟩
theorem amF_lt (mm : Nat → Nat) : ∀ {m : Nat}, 0 < m → amF mm m < m
  | 0, h => absurd h (Nat.lt_irrefl 0)
  | m + 1, _ => by
    rw [amF]
    split
    · omega
    · split
      · omega
      · have := amF_lt mm (m := m) (by omega); omega
theorem am_lt {mm : Nat → Nat} {k N : Nat} (hN : N ≤ 10) (hk : k < N) : amF mm k < 2 ^ 31 := by
  by_cases c : k = 0
  · rw [c]; exact Nat.two_pow_pos 31
  · have := amF_lt mm (m := k) (by omega); omega
set_option maxHeartbeats 4000000 in
theorem mo_wl {d bc bs n : Nat} {h : jx_H} {Q : Option Value → jx_H → Prop} {z u : Int32} {S : MS} {lg : Nat} {ln lm ld : Nat → Int32}  (H : jx_St h) (hS : mSt h.2.1 S) (h0 : 0 < S.1.1) (hmi : S.1.1 ≤ 10) (hA : mAl h S z n (ftB S z ln lm ld lg) (30 * S.1.1)) (x5 x6 x7 : Option Value) (hQ : Q (some (.int (if fa_cnt (ftB S z ln lm ld lg) (30 * S.1.1) = 0 then -2 else if u = 0 then nI (amF (fun m => mxD (alN (ftB S z ln lm ld lg) (dvN S z n m) (30 * S.1.1)) 100) S.1.1) else nI ((fun m => mxD (alN (ftB S z ln lm ld lg) (dvN S z n m) (30 * S.1.1)) 100) (amF (fun m => mxD (alN (ftB S z ln lm ld lg) (dvN S z n m) (30 * S.1.1)) 100) S.1.1))))) h) : jx_Ev (d + 4) bc bs 12102 171 [some (.ref 253), some (.int z), some (.int (nI n)), some (.int u), some (.int (nI (fa_cnt (ftB S z ln lm ld lg) (30 * S.1.1)))), x5, x6, x7, none, none] [] h Q := by
  have cl := fa_cnt_le (ftB S z ln lm ld lg) (30 * S.1.1)
  by_cases cz : fa_cnt (ftB S z ln lm ld lg) (30 * S.1.1) = 0
  · refine je_bipush (pc := 171) (v := -2) d12102_171 rfl ?_
    refine ju_istore (pc := 173) (lv' := [some _, some _, some _, some _, some _, some _, _, _, none, none]) d12102_173 rfl rfl ?_
    refine je_bipush (pc := 175) (v := -2) d12102_175 rfl ?_
    refine ju_istore (pc := 177) (lv' := [some _, some _, some _, some _, some _, some _, some _, _, none, none]) d12102_177 rfl rfl ?_
    refine je_iconst (pc := 179) (v := 0) d12102_179 rfl ?_
    refine ju_istore (pc := 180) (lv' := [some _, some _, some _, some _, some _, some _, some _, some _, none, none]) d12102_180 rfl rfl ?_
    refine je_iload (pc := 182) d12102_182 rfl ?_
    refine je_aload0 (pc := 184) d12102_184 rfl ?_
    refine ju_getr (pc := 185) (b := 254) d12102_185 jF_12_9 rfl (sK253 H) (sR253_1 H) ?_
    refine je_iconst (pc := 188) (v := 0) d12102_188 rfl ?_
    refine ju_iald (pc := 189) (jn := 0) d12102_189 (sK254 H) (by first | assumption | exact jx_ok_dec (by decide)) (by decide) ?_
    refine ju_eqi (v := nI S.1.1) hS.1.1 ?_
    refine jn_icge (pc := 190) (a := 0) (b := (S.1.1)) 283 d12102_190 (by decide) (by omega) (by omega) (fun c190 => by exfalso; omega) (fun c190 => ?_)
    refine je_iload (pc := 193) d12102_193 rfl ?_
    refine jn_ifle (pc := 195) (a := (fa_cnt (ftB S z ln lm ld lg) (30 * S.1.1))) 283 d12102_195 (by decide) (by omega) (fun c195 => ?_) (fun c195 => by exfalso; omega)
    refine je_iload3 (pc := 283) d12102_283 rfl ?_
    refine je_ifne (pc := 284) 292 d12102_284 (by decide) (fun c284 => ?_) (fun c284 => ?_)
    · refine je_iload (pc := 292) d12102_292 rfl ?_
      refine je_iret (pc := 294) d12102_294 rfl ?_
      rw [if_pos cz] at hQ
      exact hQ
    · refine je_iload (pc := 287) d12102_287 rfl ?_
      refine je_goto (pc := 289) 294 d12102_289 (by decide) ?_
      refine je_iret (pc := 294) d12102_294 rfl ?_
      rw [if_pos cz] at hQ
      exact hQ
  · refine je_bipush (pc := 171) (v := -2) d12102_171 rfl ?_
    refine ju_istore (pc := 173) (lv' := [some _, some _, some _, some _, some _, some _, _, _, none, none]) d12102_173 rfl rfl ?_
    refine je_bipush (pc := 175) (v := -2) d12102_175 rfl ?_
    refine ju_istore (pc := 177) (lv' := [some _, some _, some _, some _, some _, some _, some _, _, none, none]) d12102_177 rfl rfl ?_
    refine je_iconst (pc := 179) (v := 0) d12102_179 rfl ?_
    refine ju_istore (pc := 180) (lv' := [some _, some _, some _, some _, some _, some _, some _, some _, none, none]) d12102_180 rfl rfl ?_
    refine je_loop (σ := Int32 × Int32 × Option Value × Option Value) (S.1.1) (fun k xx => [some (.ref 253), some (.int z), some (.int (nI n)), some (.int u), some (.int (nI (fa_cnt (ftB S z ln lm ld lg) (30 * S.1.1)))), some (.int xx.1), some (.int xx.2.1), some (.int (nI k)), xx.2.2.1, xx.2.2.2]) (fun k xx h' => h' = h ∧ ((k = 0 ∧ xx.1 = -2 ∧ xx.2.1 = -2) ∨ (0 < k ∧ xx.1 = nI (amF (fun m => mxD (alN (ftB S z ln lm ld lg) (dvN S z n m) (30 * S.1.1)) 100) k) ∧ xx.2.1 = nI ((fun m => mxD (alN (ftB S z ln lm ld lg) (dvN S z n m) (30 * S.1.1)) 100) (amF (fun m => mxD (alN (ftB S z ln lm ld lg) (dvN S z n m) (30 * S.1.1)) 100) k))))) (fun k xx h' hk e kk => ?_) (fun xx h' e => ?_) (0) (-2, -2, none, none) h (by omega) ⟨rfl, Or.inl ⟨rfl, rfl, rfl⟩⟩
    · obtain ⟨e0, e3⟩ := e
      obtain rfl := e0.symm
      refine je_iload (pc := 182) d12102_182 rfl ?_
      refine je_aload0 (pc := 184) d12102_184 rfl ?_
      refine ju_getr (pc := 185) (b := 254) d12102_185 jF_12_9 rfl (sK253 H) (sR253_1 H) ?_
      refine je_iconst (pc := 188) (v := 0) d12102_188 rfl ?_
      refine ju_iald (pc := 189) (jn := 0) d12102_189 (sK254 H) (by first | assumption | exact jx_ok_dec (by decide)) (by decide) ?_
      refine ju_eqi (v := nI S.1.1) hS.1.1 ?_
      refine jn_icge (pc := 190) (a := (k)) (b := (S.1.1)) 283 d12102_190 (by decide) (by omega) (by omega) (fun c190 => by exfalso; omega) (fun c190 => ?_)
      refine je_iload (pc := 193) d12102_193 rfl ?_
      refine jn_ifle (pc := 195) (a := (fa_cnt (ftB S z ln lm ld lg) (30 * S.1.1))) 283 d12102_195 (by decide) (by omega) (fun c195 => by exfalso; omega) (fun c195 => ?_)
      refine mo_wd (m := k) (lg := lg) (ln := ln) (lm := lm) (ld := ld) H hmi hA hk _ _ _ _ _ _ ?_
      have ml := mm_le (ftB S z ln lm ld lg) (dvN S z n k) (30 * S.1.1)
      have ml2 : (fun m => mxD (alN (ftB S z ln lm ld lg) (dvN S z n m) (30 * S.1.1)) 100) (amF (fun m => mxD (alN (ftB S z ln lm ld lg) (dvN S z n m) (30 * S.1.1)) 100) k) ≤ fa_cnt (ftB S z ln lm ld lg) (30 * S.1.1) := mm_le (ftB S z ln lm ld lg) (dvN S z n (amF (fun m => mxD (alN (ftB S z ln lm ld lg) (dvN S z n m) (30 * S.1.1)) 100) k)) (30 * S.1.1)
      refine je_iload (pc := 255) d12102_255 rfl ?_
      refine je_bipush (pc := 257) (v := -2) d12102_257 rfl ?_
      refine je_iceq (pc := 259) 269 d12102_259 (by decide) (fun c259 => ?_) (fun c259 => ?_)
      · refine je_iload (pc := 269) d12102_269 rfl ?_
        refine ju_istore (pc := 271) (lv' := [some _, some _, some _, some _, some _, some _, some _, some _, some _, some _]) d12102_271 rfl rfl ?_
        refine je_iload (pc := 273) d12102_273 rfl ?_
        refine ju_istore (pc := 275) (lv' := [some _, some _, some _, some _, some _, some _, some _, some _, some _, some _]) d12102_275 rfl rfl ?_
        refine ju_incN (pc := 277) (v := nI ((k) + 1)) (lv' := [some _, some _, some _, some _, some _, some _, some _, some _, some _, some _]) d12102_277 rfl (nI_1 (k)) rfl ?_
        refine je_goto (pc := 280) 182 d12102_280 (by decide) ?_
        refine kk (_, _, some _, some _) _ ⟨rfl, Or.inr ⟨by omega, ?_⟩⟩
        have ea : amF (fun m => mxD (alN (ftB S z ln lm ld lg) (dvN S z n m) (30 * S.1.1)) 100) (k + 1) = k := by
          rw [amF]
          rcases e3 with ⟨y0, -⟩ | ⟨y0, y1, -⟩
          · rw [if_pos y0, y0]
          · rw [y1] at c259
            exact absurd c259 (fun q => nI_pos (n := amF (fun m => mxD (alN (ftB S z ln lm ld lg) (dvN S z n m) (30 * S.1.1)) 100) k) (am_lt hmi hk) (by rw [q]; decide))
        rw [ea]
        exact ⟨rfl, rfl⟩
      · refine je_iload (pc := 262) d12102_262 rfl ?_
        refine je_iload (pc := 264) d12102_264 rfl ?_
        refine ju_icge (pc := 266) 277 d12102_266 (by decide) (fun c266 => ?_) (fun c266 => ?_)
        · refine ju_incN (pc := 277) (v := nI ((k) + 1)) (lv' := [some _, some _, some _, some _, some _, some _, some _, some _, some _, some _]) d12102_277 rfl (nI_1 (k)) rfl ?_
          refine je_goto (pc := 280) 182 d12102_280 (by decide) ?_
          refine kk (xx.1, xx.2.1, some _, some _) _ ⟨rfl, Or.inr ⟨by omega, ?_⟩⟩
          rcases e3 with ⟨y0, y1, -⟩ | ⟨y0, y1, y2⟩
          · exact absurd y1 c259
          · rw [y2, nI_ltI (by omega) (by omega)] at c266
            rw [amF, if_neg (by omega), if_neg c266]
            exact ⟨y1, y2⟩
        · refine je_iload (pc := 269) d12102_269 rfl ?_
          refine ju_istore (pc := 271) (lv' := [some _, some _, some _, some _, some _, some _, some _, some _, some _, some _]) d12102_271 rfl rfl ?_
          refine je_iload (pc := 273) d12102_273 rfl ?_
          refine ju_istore (pc := 275) (lv' := [some _, some _, some _, some _, some _, some _, some _, some _, some _, some _]) d12102_275 rfl rfl ?_
          refine ju_incN (pc := 277) (v := nI ((k) + 1)) (lv' := [some _, some _, some _, some _, some _, some _, some _, some _, some _, some _]) d12102_277 rfl (nI_1 (k)) rfl ?_
          refine je_goto (pc := 280) 182 d12102_280 (by decide) ?_
          refine kk (_, _, some _, some _) _ ⟨rfl, Or.inr ⟨by omega, ?_⟩⟩
          have ea : amF (fun m => mxD (alN (ftB S z ln lm ld lg) (dvN S z n m) (30 * S.1.1)) 100) (k + 1) = k := by
            rw [amF]
            rcases e3 with ⟨y0, -⟩ | ⟨y0, -, y2⟩
            · rw [if_pos y0, y0]
            · rw [y2, nI_ltI (by omega) (by omega)] at c266
              rw [if_neg (by omega), if_pos c266]
          rw [ea]
          exact ⟨rfl, rfl⟩
    · obtain ⟨e0, e3⟩ := e
      obtain rfl := e0.symm
      refine je_iload (pc := 182) d12102_182 rfl ?_
      refine je_aload0 (pc := 184) d12102_184 rfl ?_
      refine ju_getr (pc := 185) (b := 254) d12102_185 jF_12_9 rfl (sK253 H) (sR253_1 H) ?_
      refine je_iconst (pc := 188) (v := 0) d12102_188 rfl ?_
      refine ju_iald (pc := 189) (jn := 0) d12102_189 (sK254 H) (by first | assumption | exact jx_ok_dec (by decide)) (by decide) ?_
      refine ju_eqi (v := nI S.1.1) hS.1.1 ?_
      refine jn_icge (pc := 190) (a := ((S.1.1))) (b := (S.1.1)) 283 d12102_190 (by decide) (by omega) (by omega) (fun c190 => ?_) (fun c190 => by exfalso; omega)
      refine je_iload3 (pc := 283) d12102_283 rfl ?_
      refine je_ifne (pc := 284) 292 d12102_284 (by decide) (fun c284 => ?_) (fun c284 => ?_)
      · refine je_iload (pc := 292) d12102_292 rfl ?_
        refine je_iret (pc := 294) d12102_294 rfl ?_
        rcases e3 with ⟨z0, -⟩ | ⟨z0, z1, z2⟩
        · omega
        · have c0 : ¬ fa_cnt (ftB S z ln lm ld lg) (30 * S.1.1) = 0 := cz
          rw [if_neg c0, if_neg c284] at hQ
          rw [z2]; exact hQ
      · refine je_iload (pc := 287) d12102_287 rfl ?_
        refine je_goto (pc := 289) 294 d12102_289 (by decide) ?_
        refine je_iret (pc := 294) d12102_294 rfl ?_
        rcases e3 with ⟨z0, -⟩ | ⟨z0, z1, z2⟩
        · omega
        · have c0 : ¬ fa_cnt (ftB S z ln lm ld lg) (30 * S.1.1) = 0 := cz
          rw [if_neg c0, if_pos c284] at hQ
          rw [z1]; exact hQ
set_option maxHeartbeats 8000000 in
theorem t_Mo_weigh (d : Nat) {bc bs : Nat} {h : jx_H} {S : MS} {lg : Nat} {ln lm ld : Nat → Int32} (H : jx_St h) (q0 : mFit h S lg ln lm ld) (wS : wfS S) (hmi : S.1.1 ≤ 10) (hlg : lg ≤ 10) (wl : ∀ k, k < lg → (∃ x, x ≤ 30 ∧ ln k = nI x) ∧ (∃ m, m < S.1.1 ∧ lm k = nI m) ∧ ∃ e, e ≤ 99 ∧ ld k = nI e) (z u : Int32) {n : Nat} (h0 : 0 < S.1.1) (hz : ¬ z < 1 ∧ ¬ 99 < z) (hn : n ≤ 30) (hu : ¬ u < 0 ∧ ¬ 1 < u) : jx_Tr (d + 5) bc bs 12102 [.ref 253, .int z, .int (nI n), .int u] h (fun r h' => r = some (.int (if fa_cnt (ftB S z ln lm ld lg) (30 * S.1.1) = 0 then -2 else if u = 0 then nI (amF (fun m => mxD (alN (ftB S z ln lm ld lg) (dvN S z n m) (30 * S.1.1)) 100) S.1.1) else nI ((fun m => mxD (alN (ftB S z ln lm ld lg) (dvN S z n m) (30 * S.1.1)) 100) (amF (fun m => mxD (alN (ftB S z ln lm ld lg) (dvN S z n m) (30 * S.1.1)) 100) S.1.1)))) ∧ fth h h') := by
  refine jx_tr jM_Mo_weigh rfl rfl (lv := [some (.ref 253), some (.int z), some (.int (nI n)), some (.int u), none, none, none, none, none, none]) rfl ?_
  refine je_aload0 (pc := 0) d12102_0 rfl ?_
  refine ju_callv (pc := 1) (as := []) d12102_1 jL_12_400 jM_Mo_isStrip rfl (by decide) (sK253 H) rfl (by exact Nat.le_of_ble_eq_true rfl) (t_Mo_isStrip (d + 3) H) (fun r1 h1 q1 => ?_)
  obtain ⟨rfl, e1⟩ := q1
  obtain rfl := e1.symm
  refine jb_ifeq (pc := 4) 41 d12102_4 (by decide) (fun c4 => absurd c4 (fun q => q (by rw [q0.1.1.1]; exact nI_lt (a := 0) h0 (by omega)))) (fun c4 => ?_)
  refine je_iload1 (pc := 7) d12102_7 rfl ?_
  refine je_i2l (pc := 8) d12102_8 ?_
  refine je_lconst1 (pc := 9) d12102_9 ?_
  refine je_ldc2 (pc := 10) d12102_10 jK_12_473 ?_
  refine ju_calls (pc := 13) (as := [_, _, _]) d12102_13 jL_12_170 jM_Mo_in rfl rfl (by exact Nat.le_of_ble_eq_true rfl) (t_Mo_in (d + 3) _ _ _) (fun r13 h13 q13 => ?_)
  obtain ⟨rfl, e13⟩ := q13
  obtain rfl := e13.symm
  refine ju_eqi (v := b2 (¬ z < 1 ∧ ¬ 99 < z)) (in_1 z (n := 99) (by decide)) ?_
  refine jb_ifeq (pc := 16) 41 d12102_16 (by decide) (fun c16 => absurd c16 (fun q => q hz)) (fun c16 => ?_)
  refine je_iload2 (pc := 19) d12102_19 rfl ?_
  refine je_i2l (pc := 20) d12102_20 ?_
  refine je_lconst0 (pc := 21) d12102_21 ?_
  refine je_ldc2 (pc := 22) d12102_22 jK_12_531 ?_
  refine ju_calls (pc := 25) (as := [_, _, _]) d12102_25 jL_12_170 jM_Mo_in rfl rfl (by exact Nat.le_of_ble_eq_true rfl) (t_Mo_in (d + 3) _ _ _) (fun r25 h25 q25 => ?_)
  obtain ⟨rfl, e25⟩ := q25
  obtain rfl := e25.symm
  refine ju_eqi (v := b2 (¬ nI n < 0 ∧ ¬ 30 < nI n)) (in_0 (nI n) (n := 30) (by decide)) ?_
  refine jb_ifeq (pc := 28) 41 d12102_28 (by decide) (fun c28 => absurd c28 (fun q => q ⟨nI_pos (by omega), nI_nlt (a := 30) (b := n) hn (by decide)⟩)) (fun c28 => ?_)
  refine je_iload3 (pc := 31) d12102_31 rfl ?_
  refine je_i2l (pc := 32) d12102_32 ?_
  refine je_lconst0 (pc := 33) d12102_33 ?_
  refine je_lconst1 (pc := 34) d12102_34 ?_
  refine ju_calls (pc := 35) (as := [_, _, _]) d12102_35 jL_12_170 jM_Mo_in rfl rfl (by exact Nat.le_of_ble_eq_true rfl) (t_Mo_in (d + 3) _ _ _) (fun r35 h35 q35 => ?_)
  obtain ⟨rfl, e35⟩ := q35
  obtain rfl := e35.symm
  refine ju_eqi (v := b2 (¬ u < 0 ∧ ¬ 1 < u)) (in_0 u (n := 1) (by decide)) ?_
  refine jb_ifne (pc := 38) 43 d12102_38 (by decide) (fun c38 => ?_) (fun c38 => absurd c38 (fun q => absurd hu q))
  refine je_iconst (pc := 43) (v := 0) d12102_43 rfl ?_
  refine ju_istore (pc := 44) (lv' := [some _, some _, some _, some _, some _, none, none, none, none, none]) d12102_44 rfl rfl ?_
  refine je_loop (σ := Unit) (1000) (fun k xx => [some (.ref 253), some (.int z), some (.int (nI n)), some (.int u), some (.int (nI k)), none, none, none, none, none]) (fun k _ h' => fth h h' ∧ ∀ i, i < k → h'.2.1 300 i = 0) (fun k xx h' hk e kk => ?_) (fun xx h' e => ?_) (0) () h (by omega) ⟨fth.rf, fun i hi => absurd hi (Nat.not_lt_zero i)⟩
  · obtain ⟨e1, e2⟩ := e
    have H1 := e1.1.St H
    refine je_iload (pc := 46) d12102_46 rfl ?_
    refine je_aload0 (pc := 48) d12102_48 rfl ?_
    refine ju_getr (pc := 49) (b := 300) d12102_49 jF_12_154 rfl (sK253 H1) (sR253_62 H1) ?_
    refine je_alen (pc := 52) d12102_52 (sK300 H1) (by decide) ?_
    refine jn_icge (pc := 53) (a := (k)) (b := 1000) 70 d12102_53 (by decide) (by omega) (by omega) (fun c53 => by exfalso; omega) (fun c53 => ?_)
    refine je_aload0 (pc := 56) d12102_56 rfl ?_
    refine ju_getr (pc := 57) (b := 300) d12102_57 jF_12_154 rfl (sK253 H1) (sR253_62 H1) ?_
    refine je_iload (pc := 60) d12102_60 rfl ?_
    refine je_iconst (pc := 62) (v := 0) d12102_62 rfl ?_
    refine ju_iast (pc := 63) (jn := (k)) d12102_63 (sK300 H1) (vp_in_nI (by omega) (by decide)) (nI_clamp (by omega)) ?_
    refine ju_incN (pc := 64) (v := nI ((k) + 1)) (lv' := [some _, some _, some _, some _, some _, none, none, none, none, none]) d12102_64 rfl (nI_1 (k)) rfl ?_
    refine je_goto (pc := 67) 46 d12102_67 (by decide) ?_
    refine kk () _ ⟨⟨e1.1.wI (by omega), fun j hj => by rw [wI_ne _ _ _ (by decide)]; exact e1.2 j hj⟩, fun i hi => ?_⟩
    rw [wI_at]
    by_cases c : i = k
    · subst c; rw [jx_up_self]
    · rw [jx_up_ne _ _ c]; exact e2 i (by omega)
  · obtain ⟨e1, e2⟩ := e
    have H1 := e1.1.St H
    refine je_iload (pc := 46) d12102_46 rfl ?_
    refine je_aload0 (pc := 48) d12102_48 rfl ?_
    refine ju_getr (pc := 49) (b := 300) d12102_49 jF_12_154 rfl (sK253 H1) (sR253_62 H1) ?_
    refine je_alen (pc := 52) d12102_52 (sK300 H1) (by decide) ?_
    refine jn_icge (pc := 53) (a := ((1000))) (b := 1000) 70 d12102_53 (by decide) (by omega) (by omega) (fun c53 => ?_) (fun c53 => by exfalso; omega)
    refine je_iconst (pc := 70) (v := 0) d12102_70 rfl ?_
    refine ju_istore (pc := 71) (lv' := [some _, some _, some _, some _, some _, none, none, none, none, none]) d12102_71 rfl rfl ?_
    refine je_iconst (pc := 73) (v := 0) d12102_73 rfl ?_
    refine ju_istore (pc := 74) (lv' := [some _, some _, some _, some _, some _, some _, none, none, none, none]) d12102_74 rfl rfl ?_
    have g1 := e1
    have g2 := e2
    have Hg := H1
    refine je_loop (σ := Option Value × Option Value) (S.1.1) (fun k xx => [some (.ref 253), some (.int z), some (.int (nI n)), some (.int u), some (.int (nI (fa_cnt (ftB S z ln lm ld lg) (30 * k)))), some (.int (nI k)), xx.1, xx.2, none, none]) (fun k xx h' => fth h h' ∧ mAl h' S z n (ftB S z ln lm ld lg) (30 * k)) (fun k xx h' hk e kk => ?_) (fun xx h' e => ?_) (0) (none, none) _ (by omega) ⟨g1, fun q hq e he => g2 _ (by omega)⟩
    · obtain ⟨e1, e2⟩ := e
      have H1 := e1.1.St H
      have hm1 := (q0.fr e1).1.1.1
      refine je_iload (pc := 76) d12102_76 rfl ?_
      refine je_aload0 (pc := 78) d12102_78 rfl ?_
      refine ju_getr (pc := 79) (b := 254) d12102_79 jF_12_9 rfl (sK253 H1) (sR253_1 H1) ?_
      refine je_iconst (pc := 82) (v := 0) d12102_82 rfl ?_
      refine ju_iald (pc := 83) (jn := 0) d12102_83 (sK254 H1) (by first | assumption | exact jx_ok_dec (by decide)) (by decide) ?_
      refine ju_eqi (v := nI S.1.1) hm1 ?_
      refine jn_icge (pc := 84) (a := (k)) (b := (S.1.1)) 171 d12102_84 (by decide) (by omega) (by omega) (fun c84 => by exfalso; omega) (fun c84 => ?_)
      refine mo_wb (a := k) (n := n) H1 (q0.fr e1) wS hmi hlg wl hk hn hz.1 e2 _ _ _ (fun h2 x7 f1 f2 => ?_)
      refine ju_incN (pc := 165) (v := nI ((k) + 1)) (lv' := [some _, some _, some _, some _, some _, some _, _, _, none, none]) d12102_165 rfl (nI_1 (k)) rfl ?_
      refine je_goto (pc := 168) 76 d12102_168 (by decide) ?_
      exact kk (some _, x7) _ ⟨e1.tr f1, f2⟩
    · obtain ⟨e1, e2⟩ := e
      have H1 := e1.1.St H
      have hm1 := (q0.fr e1).1.1.1
      refine je_iload (pc := 76) d12102_76 rfl ?_
      refine je_aload0 (pc := 78) d12102_78 rfl ?_
      refine ju_getr (pc := 79) (b := 254) d12102_79 jF_12_9 rfl (sK253 H1) (sR253_1 H1) ?_
      refine je_iconst (pc := 82) (v := 0) d12102_82 rfl ?_
      refine ju_iald (pc := 83) (jn := 0) d12102_83 (sK254 H1) (by first | assumption | exact jx_ok_dec (by decide)) (by decide) ?_
      refine ju_eqi (v := nI S.1.1) hm1 ?_
      refine jn_icge (pc := 84) (a := ((S.1.1))) (b := (S.1.1)) 171 d12102_84 (by decide) (by omega) (by omega) (fun c84 => ?_) (fun c84 => by exfalso; omega)
      exact mo_wl H1 (q0.fr e1).1 h0 hmi e2 _ _ _ ⟨rfl, e1⟩
theorem op_weigh (x y u : Int32) : jo Inv 32 12102 [.int x, .int y, .int u] := jo_th (fun n h t nr rs X Y hn q => by
  obtain ⟨s, r1, r2, r3, r4, -⟩ := q.cl
  obtain ⟨b1, b2, -⟩ := q.mi
  obtain ⟨-, -, -, -, ⟨-, rl, -, ⟨rg1, rg2⟩, -⟩, -, ⟨wS, wl, -, wx, ⟨wg1, wg2⟩, -⟩, -⟩ := id q
  by_cases G : 0 < X.1.1.1 ∧ (¬ x < 1 ∧ ¬ 99 < x) ∧ (¬ y < 0 ∧ ¬ 30 < y) ∧ (¬ u < 0 ∧ ¬ 1 < u)
  · obtain ⟨G1, G2, G3, G4⟩ := G
    obtain ⟨k, hk, rfl⟩ := z_of (n := 30) G3 (by decide)
    refine ⟨_, _, Or.inr ⟨s, rfl⟩, t_Db_weigh 193 q.1 r1 r2 r3 r4 G1 b1 rg1 wg1 rg2 wg2 wS x u G2 hk G4, fun h1 S1 g1 m1 => (t_Mo_weigh 194 S1 ⟨m1.st, m1.lg⟩ wS b1 wg1 wg2 x u G1 G2 hk G4).mono (fun r h2 e => ⟨e.1, e.2.fin m1⟩)⟩
  · have g0 : ∀ k : Nat, k ≤ 10 → (0 < nI k ↔ 0 < k) := fun k hk => nI_ltI (a := 0) (by decide) (by omega)
    exact ⟨-1, h, Or.inl rfl, (t_Db_weigh_n 193 q.1 r1 r3 x y u (by rw [r4.1.1]; exact fun c => G ⟨(g0 _ b1).mp c.1.1, c.1.2, ⟨c.2.1, c.2.2.1⟩, c.2.2.2⟩)).mono (fun r h1 e => ⟨e.1, by rw [e.2]; exact fC.rf⟩), fun h1 S1 g1 m1 => (t_Mo_weigh_n 194 S1 x y u (by rw [m1.st.1.1]; exact fun c => G ⟨(g0 _ b1).mp c.1, c.2⟩)).mono (fun r h2 e => ⟨e.1, by rw [e.2]; exact ⟨fM.rf, m1⟩⟩)⟩)
