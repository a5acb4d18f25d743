/-! theft -/
def fth (h h' : jx_H) : Prop := fC (fun b => b = 253 ∨ (299 ≤ b ∧ b ≤ 300)) h h' ∧ ∀ j, j ≠ 61 → h'.2.1 253 j = h.2.1 253 j
theorem fth.rf {h : jx_H} : fth h h := ⟨fC.rf, fun _ _ => rfl⟩
theorem fth.tr {h1 h2 h3 : jx_H} (a : fth h1 h2) (b : fth h2 h3) : fth h1 h3 := ⟨a.1.tr b.1, fun j hj => (b.2 j hj).trans (a.2 j hj)⟩
theorem fth.fin {h h' : jx_H} {X : MW} (f : fth h h') (m : mW (gN h) X) : fM h h' ∧ mW (gN h') X := by
  refine ⟨fM.of f.1 (fun b hb => by unfold mRow; omega) (f.2 27 (by decide)) (f.2 31 (by decide)) (f.2 36 (by decide)), ?_⟩
  refine m.mk rfl (fun a ha => f.1.2 a (by omega)) (fun j hj => by rw [f.1.2 254 (by omega)]) (m.la.of (f.1.2 _ (by omega)) (f.1.2 _ (by omega)) (f.1.2 _ (by omega)) (f.1.2 _ (by omega)) (by rw [f.1.2 254 (by omega)]) (by rw [f.1.2 254 (by omega)])) ?_ ?_ ?_
  · rw [f.1.2 254 (by omega)]; exact m.fx
  · rw [f.1.2 254 (by omega), f.1.2 265 (by omega), f.1.2 266 (by omega), f.1.2 267 (by omega)]; exact m.lg
  · rw [f.2 51 (by decide), f.1.2 292 (by omega)]; exact m.pa
/-- what the model holds for a fit -/
def mFit (h : jx_H) (S : MS) (lg : Nat) (ln lm ld : Nat → Int32) : Prop := mSt h.2.1 S ∧ h.2.1 254 6 = nI lg ∧ ∀ k, k < lg → h.2.1 265 k = ln k ∧ h.2.1 266 k = lm k ∧ h.2.1 267 k = ld k
theorem mFit.fr {h h' : jx_H} {S : MS} {lg : Nat} {ln lm ld : Nat → Int32} (q : mFit h S lg ln lm ld) (f : fth h h') : mFit h' S lg ln lm ld := by
  refine ⟨q.1.fr (fun b hb => f.1.2 b (by omega)) (fun j _ => by rw [f.1.2 254 (by omega)]), by rw [f.1.2 254 (by omega)]; exact q.2.1, ?_⟩
  rw [f.1.2 265 (by omega), f.1.2 266 (by omega), f.1.2 267 (by omega)]
  exact q.2.2
theorem mo_fit (d : Nat) {bc bs : Nat} {h : jx_H} {S : MS} {lg : Nat} {ln lm ld : Nat → Int32} (H : jx_St h) (q : mFit h S lg ln lm ld) (wS : wfS S) (hmi : S.1.1 ≤ 10) (hlg : lg ≤ 10) (wl : ∀ k, k < lg → (∃ x, x ≤ 30 ∧ ln k = nI x) ∧ (∃ m, m < S.1.1 ∧ lm k = nI m) ∧ ∃ e, e ≤ 99 ∧ ld k = nI e) {a b : Nat} {z : Int32} (ha : a < S.1.1) (hb : b < 30) : jx_Tr (d + 3) bc bs 12100 [.ref 253, .int (nI a), .int (nI b), .int z] h (fun r h' => r = some (.int (b2 (ftB S z ln lm ld lg (30 * a + b) = true))) ∧ fth h h' ∧ (ftB S z ln lm ld lg (30 * a + b) = true → ∀ m, m < S.1.1 → ∀ n, n < 31 → h'.2.1 299 (31 * m + n) = dbI S z a b m n) ∧ h'.2.1 300 = h.2.1 300) :=
  (t_Mo_doesFit d H q.1 wS hmi q.2.1 hlg q.2.2 wl ha hb).mono (fun r h' e => ⟨e.1, ⟨e.2.1.mo (fun b hb => by omega), e.2.2.1⟩, fun f m hm n hn => (e.2.2.2 m hm n hn).trans (co_db wS (by omega) (by
    unfold ftB at f
    rw [Bool.and_eq_true, decide_eq_true_eq, show (30 * a + b) / 30 = a by omega] at f
    exact f.1.1)), e.2.1.2 300 (by omega)⟩)
theorem fc_first {F : Nat → Bool} : ∀ {t : Nat}, ¬ fa_cnt F t = 0 → ∃ i, i < t ∧ F i = true ∧ fa_cnt F i = 0
  | 0, h => absurd rfl h
  | t + 1, h => by
    by_cases c : fa_cnt F t = 0
    · cases e : F t
      · rw [fa_cnt_no e] at h; exact absurd c h
      · exact ⟨t, by omega, e, c⟩
    · obtain ⟨i, h1, h2, h3⟩ := fc_first c
      exact ⟨i, by omega, h2, h3⟩
theorem fa_uniq {F : Nat → Bool} {i j : Nat} (hi : F i = true) (hj : F j = true) (e : fa_cnt F i = fa_cnt F j) : i = j := by
  rcases Nat.lt_trichotomy i j with c | c | c
  · have := fa_cnt_inj c hi; omega
  · exact c
  · have := fa_cnt_inj c hj; omega
def fsP (F : Nat → Bool) (i t : Nat) (x : Int32 × Int32) : Prop := (fa_cnt F t = 0 → x = (-2, -2)) ∧ (¬ fa_cnt F t = 0 → x = (nI (i / 30), nI (i % 30)))
set_option maxHeartbeats 4000000 in
theorem mo_ti {d bc bs a i : Nat} {h : jx_H} {Q : Option Value → jx_H → Prop} {z y : Int32} {S : MS} {lg : Nat} {ln lm ld : Nat → Int32} (H : jx_St h) (q0 : mFit h S lg ln lm ld) (wS : wfS S) (hmi : S.1.1 ≤ 10) (hlg : lg ≤ 10) (wl : ∀ k, k < lg → (∃ x, x ≤ 30 ∧ ln k = nI x) ∧ (∃ m, m < S.1.1 ∧ lm k = nI m) ∧ ∃ e, e ≤ 99 ∧ ld k = nI e) (ha : a < S.1.1) (hi : ¬ fa_cnt (ftB S z ln lm ld lg) (30 * S.1.1) = 0 → i < 30 * S.1.1 ∧ ftB S z ln lm ld lg i = true ∧ fa_cnt (ftB S z ln lm ld lg) i = 0) (x7 : Option Value) (x : Int32 × Int32) (hx : fsP (ftB S z ln lm ld lg) i (30 * a) x)
  (hK : ∀ h' x', fth h h' → fsP (ftB S z ln lm ld lg) i (30 * (a + 1)) x' → jx_Ev (d + 4) bc bs 12099 114 [some (.ref 253), some (.int z), some (.int y), some (.int (nI (fa_cnt (ftB S z ln lm ld lg) (30 * (a + 1))))), some (.int x'.1), some (.int x'.2), some (.int (nI a)), some (.int (nI 30))] [] h' Q) : jx_Ev (d + 4) bc bs 12099 57 [some (.ref 253), some (.int z), some (.int y), some (.int (nI (fa_cnt (ftB S z ln lm ld lg) (30 * a)))), some (.int x.1), some (.int x.2), some (.int (nI a)), x7] [] h Q := by
  refine je_iconst (pc := 57) (v := 0) d12099_57 rfl ?_
  refine ju_istore (pc := 58) (lv' := [some _, some _, some _, some _, some _, some _, some _, some _]) d12099_58 rfl rfl ?_
  refine je_loop (σ := Int32 × Int32) (30) (fun k xx => [some (.ref 253), some (.int z), some (.int y), some (.int (nI (fa_cnt (ftB S z ln lm ld lg) (30 * a + k)))), some (.int xx.1), some (.int xx.2), some (.int (nI a)), some (.int (nI k))]) (fun k xx h' => fth h h' ∧ fsP (ftB S z ln lm ld lg) i (30 * a + k) xx) (fun k xx h' hk e kk => ?_) (fun xx h' e => ?_) (0) x h (by omega) ⟨fth.rf, hx⟩
  · obtain ⟨e1, e2⟩ := e
    have H1 := e1.1.St H
    have cl := fa_cnt_le (ftB S z ln lm ld lg) (30 * a + k)
    refine je_iload (pc := 60) d12099_60 rfl ?_
    refine je_bipush (pc := 62) (v := 30) d12099_62 rfl ?_
    refine jn_icge (pc := 64) (a := (k)) (b := 30) 114 d12099_64 (by decide) (by omega) (by omega) (fun c64 => by exfalso; omega) (fun c64 => ?_)
    refine je_aload0 (pc := 67) d12099_67 rfl ?_
    refine je_iload (pc := 68) d12099_68 rfl ?_
    refine je_iload (pc := 70) d12099_70 rfl ?_
    refine je_iload1 (pc := 72) d12099_72 rfl ?_
    refine ju_callv (pc := 73) (as := [_, _, _]) d12099_73 jL_12_540 jM_Mo_doesFit rfl (by decide) (sK253 H1) rfl (by exact Nat.le_of_ble_eq_true rfl) (mo_fit d (z := z) H1 (q0.fr e1) wS hmi hlg wl (a := a) (b := k) ha (by omega)) (fun r73 h73 q73 => ?_)
    obtain ⟨rfl, f1, -, -⟩ := q73
    refine jb_ifeq (pc := 76) 108 d12099_76 (by decide) (fun c76 => ?_) (fun c76 => ?_)
    · refine ju_incN (pc := 108) (v := nI ((k) + 1)) (lv' := [some _, some _, some _, some _, some _, some _, some _, some _]) d12099_108 rfl (nI_1 (k)) rfl ?_
      refine je_goto (pc := 111) 60 d12099_111 (by decide) ?_
      have ff : ftB S z ln lm ld lg (30 * a + k) = false := Bool.eq_false_iff.mpr c76
      rw [show fa_cnt (ftB S z ln lm ld lg) (30 * a + k) = fa_cnt (ftB S z ln lm ld lg) (30 * a + (k + 1)) from (fa_cnt_no ff).symm]
      refine kk xx _ ⟨e1.tr f1, ?_⟩
      unfold fsP at e2 ⊢
      rw [show fa_cnt (ftB S z ln lm ld lg) (30 * a + (k + 1)) = fa_cnt (ftB S z ln lm ld lg) (30 * a + k) from fa_cnt_no ff]
      exact e2
    · refine je_iload3 (pc := 79) d12099_79 rfl ?_
      refine ju_tern1 (pc := 80) (V := (if fa_cnt (ftB S z ln lm ld lg) (30 * a + k) = 0 then nI a else xx.1)) 90 ?_ (fun jn80 => ?_)
      · refine ju_istore (pc := 90) (lv' := [some _, some _, some _, some _, some _, some _, some _, some _]) d12099_90 rfl rfl ?_
        refine je_iload3 (pc := 92) d12099_92 rfl ?_
        refine ju_tern1 (pc := 93) (V := (if fa_cnt (ftB S z ln lm ld lg) (30 * a + k) = 0 then nI k else xx.2)) 103 ?_ (fun jn93 => ?_)
        · refine ju_istore (pc := 103) (lv' := [some _, some _, some _, some _, some _, some _, some _, some _]) d12099_103 rfl rfl ?_
          refine ju_incN (pc := 105) (v := nI ((fa_cnt (ftB S z ln lm ld lg) (30 * a + k)) + 1)) (lv' := [some _, some _, some _, some _, some _, some _, some _, some _]) d12099_105 rfl (nI_1 (fa_cnt (ftB S z ln lm ld lg) (30 * a + k))) rfl ?_
          refine ju_incN (pc := 108) (v := nI ((k) + 1)) (lv' := [some _, some _, some _, some _, some _, some _, some _, some _]) d12099_108 rfl (nI_1 (k)) rfl ?_
          refine je_goto (pc := 111) 60 d12099_111 (by decide) ?_
          rw [show fa_cnt (ftB S z ln lm ld lg) (30 * a + k) + 1 = fa_cnt (ftB S z ln lm ld lg) (30 * a + (k + 1)) from (fa_cnt_yes c76).symm]
          refine kk ((if fa_cnt (ftB S z ln lm ld lg) (30 * a + k) = 0 then nI a else xx.1), (if fa_cnt (ftB S z ln lm ld lg) (30 * a + k) = 0 then nI k else xx.2)) _ ⟨e1.tr f1, fun q => ?_, fun q => ?_⟩
          · have : fa_cnt (ftB S z ln lm ld lg) (30 * a + (k + 1)) = fa_cnt (ftB S z ln lm ld lg) (30 * a + k) + 1 := fa_cnt_yes c76
            omega
          · by_cases c : fa_cnt (ftB S z ln lm ld lg) (30 * a + k) = 0
            · have m1 := fa_cnt_mono (ftB S z ln lm ld lg) (show 30 * a + (k + 1) ≤ 30 * S.1.1 by omega)
              obtain ⟨i1, i2, i3⟩ := hi (by omega)
              have ei : i = 30 * a + k := fa_uniq i2 c76 (by omega)
              rw [if_pos c, if_pos c, ei, show (30 * a + k) / 30 = a by omega, show (30 * a + k) % 30 = k by omega]
            · rw [if_neg c, if_neg c]
              exact e2.2 c
        · refine jn_ifne (pc := 93) (a := (fa_cnt (ftB S z ln lm ld lg) (30 * a + k))) 101 d12099_93 (by decide) (by omega) (fun c93 => ?_) (fun c93 => ?_)
          · refine je_iload (pc := 101) d12099_101 rfl ?_
            refine ju_eqi (v := (if fa_cnt (ftB S z ln lm ld lg) (30 * a + k) = 0 then nI k else xx.2)) (by rw [if_neg c93]) ?_
            exact jn93
          · refine je_iload (pc := 96) d12099_96 rfl ?_
            refine je_goto (pc := 98) 103 d12099_98 (by decide) ?_
            refine ju_eqi (v := (if fa_cnt (ftB S z ln lm ld lg) (30 * a + k) = 0 then nI k else xx.2)) (by rw [if_pos c93]) ?_
            exact jn93
      · refine jn_ifne (pc := 80) (a := (fa_cnt (ftB S z ln lm ld lg) (30 * a + k))) 88 d12099_80 (by decide) (by omega) (fun c80 => ?_) (fun c80 => ?_)
        · refine je_iload (pc := 88) d12099_88 rfl ?_
          refine ju_eqi (v := (if fa_cnt (ftB S z ln lm ld lg) (30 * a + k) = 0 then nI a else xx.1)) (by rw [if_neg c80]) ?_
          exact jn80
        · refine je_iload (pc := 83) d12099_83 rfl ?_
          refine je_goto (pc := 85) 90 d12099_85 (by decide) ?_
          refine ju_eqi (v := (if fa_cnt (ftB S z ln lm ld lg) (30 * a + k) = 0 then nI a else xx.1)) (by rw [if_pos c80]) ?_
          exact jn80
  · obtain ⟨e1, e2⟩ := e
    have cl := fa_cnt_le (ftB S z ln lm ld lg) (30 * a + 30)
    refine je_iload (pc := 60) d12099_60 rfl ?_
    refine je_bipush (pc := 62) (v := 30) d12099_62 rfl ?_
    refine jn_icge (pc := 64) (a := ((30))) (b := 30) 114 d12099_64 (by decide) (by omega) (by omega) (fun c64 => ?_) (fun c64 => by exfalso; omega)
    have e3 : 30 * (a + 1) = 30 * a + 30 := by omega
    have := hK _ _ e1 (by rw [e3]; exact e2)
    rw [e3] at this
    exact this
set_option maxHeartbeats 2000000 in
theorem t_Mo_theft_n (d : Nat) {bc bs : Nat} {h : jx_H} (H : jx_St h) (x y : Int32) (G : ¬ (0 < h.2.1 254 0 ∧ (¬ x < 1 ∧ ¬ 99 < x) ∧ (¬ y < 0 ∧ ¬ 2 < y))) : jx_Tr (d + 5) bc bs 12099 [.ref 253, .int x, .int y] h (fun r h' => r = some (.int (-1)) ∧ h' = h) := by
  refine jx_tr jM_Mo_theft rfl rfl (lv := [some (.ref 253), some (.int x), some (.int y), none, none, none, none, none]) rfl ?_
  refine je_aload0 (pc := 0) d12099_0 rfl ?_
  refine ju_callv (pc := 1) (as := []) d12099_1 jL_12_400 jM_Mo_isStrip rfl (by decide) (sK253 H) rfl (by exact Nat.le_of_ble_eq_true rfl) (t_Mo_isStrip (d + 3) H) (fun r1 h1 q1 => ?_)
  obtain ⟨rfl, e1⟩ := q1
  obtain rfl := e1.symm
  refine jb_ifeq (pc := 4) 31 d12099_4 (by decide) (fun c4 => ?_) (fun c4 => ?_)
  · refine je_iconst (pc := 31) (v := -1) d12099_31 rfl ?_
    refine je_iret (pc := 32) d12099_32 rfl ?_
    exact ⟨rfl, rfl⟩
  · refine je_iload1 (pc := 7) d12099_7 rfl ?_
    refine je_i2l (pc := 8) d12099_8 ?_
    refine je_lconst1 (pc := 9) d12099_9 ?_
    refine je_ldc2 (pc := 10) d12099_10 jK_12_473 ?_
    refine ju_calls (pc := 13) (as := [_, _, _]) d12099_13 jL_12_170 jM_Mo_in rfl rfl (by exact Nat.le_of_ble_eq_true rfl) (t_Mo_in (d + 3) _ _ _) (fun r13 h13 q13 => ?_)
    obtain ⟨rfl, e13⟩ := q13
    obtain rfl := e13.symm
    refine ju_eqi (v := b2 (¬ x < 1 ∧ ¬ 99 < x)) (in_1 x (n := 99) (by decide)) ?_
    refine jb_ifeq (pc := 16) 31 d12099_16 (by decide) (fun c16 => ?_) (fun c16 => ?_)
    · refine je_iconst (pc := 31) (v := -1) d12099_31 rfl ?_
      refine je_iret (pc := 32) d12099_32 rfl ?_
      exact ⟨rfl, rfl⟩
    · refine je_iload2 (pc := 19) d12099_19 rfl ?_
      refine je_i2l (pc := 20) d12099_20 ?_
      refine je_lconst0 (pc := 21) d12099_21 ?_
      refine je_ldc2 (pc := 22) d12099_22 jK_12_480 ?_
      refine ju_calls (pc := 25) (as := [_, _, _]) d12099_25 jL_12_170 jM_Mo_in rfl rfl (by exact Nat.le_of_ble_eq_true rfl) (t_Mo_in (d + 3) _ _ _) (fun r25 h25 q25 => ?_)
      obtain ⟨rfl, e25⟩ := q25
      obtain rfl := e25.symm
      refine ju_eqi (v := b2 (¬ y < 0 ∧ ¬ 2 < y)) (in_0 y (n := 2) (by decide)) ?_
      refine jb_ifne (pc := 28) 33 d12099_28 (by decide) (fun c28 => absurd c28 (fun q => G ⟨c4, c16, q⟩)) (fun c28 => ?_)
      refine je_iconst (pc := 31) (v := -1) d12099_31 rfl ?_
      refine je_iret (pc := 32) d12099_32 rfl ?_
      exact ⟨rfl, rfl⟩
set_option maxHeartbeats 4000000 in
theorem t_Mo_theft (d : Nat) {bc bs : Nat} {h : jx_H} {S : MS} {lg : Nat} {ln lm ld : Nat → Int32} (H : jx_St h) (q0 : mFit h S lg ln lm ld) (wS : wfS S) (hmi : S.1.1 ≤ 10) (hlg : lg ≤ 10) (wl : ∀ k, k < lg → (∃ x, x ≤ 30 ∧ ln k = nI x) ∧ (∃ m, m < S.1.1 ∧ lm k = nI m) ∧ ∃ e, e ≤ 99 ∧ ld k = nI e) (z y : Int32) (h0 : 0 < S.1.1) (hz : ¬ z < 1 ∧ ¬ 99 < z) (hy : ¬ y < 0 ∧ ¬ 2 < y) {i : Nat} (hi : ¬ fa_cnt (ftB S z ln lm ld lg) (30 * S.1.1) = 0 → i < 30 * S.1.1 ∧ ftB S z ln lm ld lg i = true ∧ fa_cnt (ftB S z ln lm ld lg) i = 0) : jx_Tr (d + 5) bc bs 12099 [.ref 253, .int z, .int y] h (fun r h' => r = some (.int (if y = 0 then nI (fa_cnt (ftB S z ln lm ld lg) (30 * S.1.1)) else if fa_cnt (ftB S z ln lm ld lg) (30 * S.1.1) = 0 then -2 else if y = 1 then nI (i / 30) else nI (i % 30))) ∧ fth h h') := by
  refine jx_tr jM_Mo_theft rfl rfl (lv := [some (.ref 253), some (.int z), some (.int y), none, none, none, none, none]) rfl ?_
  refine je_aload0 (pc := 0) d12099_0 rfl ?_
  refine ju_callv (pc := 1) (as := []) d12099_1 jL_12_400 jM_Mo_isStrip rfl (by decide) (sK253 H) rfl (by exact Nat.le_of_ble_eq_true rfl) (t_Mo_isStrip (d + 3) H) (fun r1 h1 q1 => ?_)
  obtain ⟨rfl, e1⟩ := q1
  obtain rfl := e1.symm
  refine jb_ifeq (pc := 4) 31 d12099_4 (by decide) (fun c4 => absurd c4 (fun q => q (by rw [q0.1.1.1]; exact nI_lt (a := 0) h0 (by omega)))) (fun c4 => ?_)
  refine je_iload1 (pc := 7) d12099_7 rfl ?_
  refine je_i2l (pc := 8) d12099_8 ?_
  refine je_lconst1 (pc := 9) d12099_9 ?_
  refine je_ldc2 (pc := 10) d12099_10 jK_12_473 ?_
  refine ju_calls (pc := 13) (as := [_, _, _]) d12099_13 jL_12_170 jM_Mo_in rfl rfl (by exact Nat.le_of_ble_eq_true rfl) (t_Mo_in (d + 3) _ _ _) (fun r13 h13 q13 => ?_)
  obtain ⟨rfl, e13⟩ := q13
  obtain rfl := e13.symm
  refine ju_eqi (v := b2 (¬ z < 1 ∧ ¬ 99 < z)) (in_1 z (n := 99) (by decide)) ?_
  refine jb_ifeq (pc := 16) 31 d12099_16 (by decide) (fun c16 => absurd c16 (fun q => q hz)) (fun c16 => ?_)
  refine je_iload2 (pc := 19) d12099_19 rfl ?_
  refine je_i2l (pc := 20) d12099_20 ?_
  refine je_lconst0 (pc := 21) d12099_21 ?_
  refine je_ldc2 (pc := 22) d12099_22 jK_12_480 ?_
  refine ju_calls (pc := 25) (as := [_, _, _]) d12099_25 jL_12_170 jM_Mo_in rfl rfl (by exact Nat.le_of_ble_eq_true rfl) (t_Mo_in (d + 3) _ _ _) (fun r25 h25 q25 => ?_)
  obtain ⟨rfl, e25⟩ := q25
  obtain rfl := e25.symm
  refine ju_eqi (v := b2 (¬ y < 0 ∧ ¬ 2 < y)) (in_0 y (n := 2) (by decide)) ?_
  refine jb_ifne (pc := 28) 33 d12099_28 (by decide) (fun c28 => ?_) (fun c28 => absurd c28 (fun q => absurd hy q))
  refine je_iconst (pc := 33) (v := 0) d12099_33 rfl ?_
  refine ju_istore3 (pc := 34) (lv' := [some _, some _, some _, some _, none, none, none, none]) d12099_34 rfl rfl ?_
  refine je_bipush (pc := 35) (v := -2) d12099_35 rfl ?_
  refine ju_istore (pc := 37) (lv' := [some _, some _, some _, some _, some _, none, none, none]) d12099_37 rfl rfl ?_
  refine je_bipush (pc := 39) (v := -2) d12099_39 rfl ?_
  refine ju_istore (pc := 41) (lv' := [some _, some _, some _, some _, some _, some _, none, none]) d12099_41 rfl rfl ?_
  refine je_iconst (pc := 43) (v := 0) d12099_43 rfl ?_
  refine ju_istore (pc := 44) (lv' := [some _, some _, some _, some _, some _, some _, some _, none]) d12099_44 rfl rfl ?_
  refine je_loop (σ := (Int32 × Int32) × Option Value) (S.1.1) (fun k xx => [some (.ref 253), some (.int z), some (.int y), some (.int (nI (fa_cnt (ftB S z ln lm ld lg) (30 * k)))), some (.int xx.1.1), some (.int xx.1.2), some (.int (nI k)), xx.2]) (fun k xx h' => fth h h' ∧ fsP (ftB S z ln lm ld lg) i (30 * k) xx.1) (fun k xx h' hk e kk => ?_) (fun xx h' e => ?_) (0) ((-2, -2), none) h (by omega) ⟨fth.rf, fun _ => rfl, fun c => absurd rfl c⟩
  · obtain ⟨e1, e2⟩ := e
    have H1 := e1.1.St H
    have hm1 := (q0.fr e1).1.1.1
    refine je_iload (pc := 46) d12099_46 rfl ?_
    refine je_aload0 (pc := 48) d12099_48 rfl ?_
    refine ju_getr (pc := 49) (b := 254) d12099_49 jF_12_9 rfl (sK253 H1) (sR253_1 H1) ?_
    refine je_iconst (pc := 52) (v := 0) d12099_52 rfl ?_
    refine ju_iald (pc := 53) (jn := 0) d12099_53 (sK254 H1) (by first | assumption | exact jx_ok_dec (by decide)) (by decide) ?_
    refine ju_eqi (v := nI S.1.1) hm1 ?_
    refine jn_icge (pc := 54) (a := (k)) (b := (S.1.1)) 120 d12099_54 (by decide) (by omega) (by omega) (fun c54 => by exfalso; omega) (fun c54 => ?_)
    refine mo_ti (a := k) (i := i) H1 (q0.fr e1) wS hmi hlg wl hk hi _ xx.1 e2 (fun h2 x2 g1 g2 => ?_)
    refine ju_incN (pc := 114) (v := nI ((k) + 1)) (lv' := [some _, some _, some _, some _, some _, some _, some _, _]) d12099_114 rfl (nI_1 (k)) rfl ?_
    refine je_goto (pc := 117) 46 d12099_117 (by decide) ?_
    exact kk (x2, some _) _ ⟨e1.tr g1, g2⟩
  · obtain ⟨e1, e2⟩ := e
    have H1 := e1.1.St H
    have hm1 := (q0.fr e1).1.1.1
    refine je_iload (pc := 46) d12099_46 rfl ?_
    refine je_aload0 (pc := 48) d12099_48 rfl ?_
    refine ju_getr (pc := 49) (b := 254) d12099_49 jF_12_9 rfl (sK253 H1) (sR253_1 H1) ?_
    refine je_iconst (pc := 52) (v := 0) d12099_52 rfl ?_
    refine ju_iald (pc := 53) (jn := 0) d12099_53 (sK254 H1) (by first | assumption | exact jx_ok_dec (by decide)) (by decide) ?_
    refine ju_eqi (v := nI S.1.1) hm1 ?_
    refine jn_icge (pc := 54) (a := ((S.1.1))) (b := (S.1.1)) 120 d12099_54 (by decide) (by omega) (by omega) (fun c54 => ?_) (fun c54 => by exfalso; omega)
    refine je_iload2 (pc := 120) d12099_120 rfl ?_
    refine je_ifne (pc := 121) 128 d12099_121 (by decide) (fun c121 => ?_) (fun c121 => ?_)
    · refine je_iload2 (pc := 128) d12099_128 rfl ?_
      refine je_iconst (pc := 129) (v := 1) d12099_129 rfl ?_
      refine je_icne (pc := 130) 138 d12099_130 (by decide) (fun c130 => ?_) (fun c130 => ?_)
      · refine je_iload (pc := 138) d12099_138 rfl ?_
        refine je_iret (pc := 140) d12099_140 rfl ?_
        refine ⟨?_, e1⟩
        rw [if_neg c121]
        by_cases c : fa_cnt (ftB S z ln lm ld lg) (30 * S.1.1) = 0
        · rw [if_pos c, e2.1 c]
        · rw [if_neg c, if_neg c130, e2.2 c]
      · refine je_iload (pc := 133) d12099_133 rfl ?_
        refine je_goto (pc := 135) 140 d12099_135 (by decide) ?_
        refine je_iret (pc := 140) d12099_140 rfl ?_
        refine ⟨?_, e1⟩
        rw [if_neg c121]
        by_cases c : fa_cnt (ftB S z ln lm ld lg) (30 * S.1.1) = 0
        · rw [if_pos c, e2.1 c]
        · rw [if_neg c, if_pos c130, e2.2 c]
    · refine je_iload3 (pc := 124) d12099_124 rfl ?_
      refine je_goto (pc := 125) 140 d12099_125 (by decide) ?_
      refine je_iret (pc := 140) d12099_140 rfl ?_
      exact ⟨by rw [if_pos c121], e1⟩
theorem rW.wk {h h' : jx_H} {X : MW} (f : fC (fun b => 107 ≤ b ∧ b ≤ 111) h h') (r : rW h 26 X) : rW h' 26 X := r.of (fun b hb => f.2 b (fun z => by unfold sRow at hb; omega)) (fun s _ hs => f.Sp hs) (fun b h1 h2 => f.2 b (by omega)) (by rw [f.1.2])
theorem jo_th {jc jm : Nat} {as : List Value} (f : ∀ n h t nr rs X Y, n < 512 → InvX n h t nr rs X Y → ∃ (v : Int32) (h0 : jx_H), (h0 = h ∨ ∃ s, h0 = jx_wR h 107 4 (some s)) ∧ jx_Tr 199 13 206 jc (.ref 1 :: as) h (fun r h1 => r = some (.int v) ∧ fC (fun b => 107 ≤ b ∧ b ≤ 111) h0 h1) ∧
    ∀ h1, jx_St h1 → (∀ b, 253 ≤ b → b ≤ 303 → h1.2.1 b = h.2.1 b) → mW (gN h1) X → jx_Tr 199 0 0 jm (.ref 253 :: as) h1 (fun r h2 => r = some (.int v) ∧ fM h1 h2 ∧ mW (gN h2) X)) : jo Inv jc jm as := by
  refine jo_st (fun n h t nr rs X Y hn q => ?_)
  obtain ⟨Q1, Q2, Q3, Q4, Q5, Q6, Q7, Q8, Q9⟩ := id q
  obtain ⟨v, h0, e0, c, m⟩ := f n h t nr rs X Y hn q
  rcases e0 with rfl | ⟨s, rfl⟩
  · refine ⟨v, X, h0, q.B, ⟨rfl, rfl⟩, Q7.up (Nat.le_succ n) (Nat.le_refl nr), Q8, c.mono (fun r h1 e => ?_), m⟩
    obtain ⟨rfl, e⟩ := e
    exact ⟨rfl, e.mo (fun b hb => by unfold cRow kRow sRow; omega), Q5.wk e⟩
  · refine ⟨v, X, _, q.B.wR (k := 4) (v := some s) rfl (n51 (Or.inr rfl)), ⟨rfl, rfl⟩, Q7.up (Nat.le_succ n) (Nat.le_refl nr), ?_, c.mono (fun r h1 e => ?_), m⟩
    · unfold lawOK
      rw [wR_ne _ _ _ (by decide), wR_ne _ _ _ (by decide)]
      exact Q8
    · obtain ⟨rfl, e⟩ := e
      exact ⟨rfl, e.mo (fun b hb => by unfold cRow kRow sRow; omega), (Q5.wR (by unfold sRow; omega)).wk e⟩
theorem op_theft (x y : Int32) : jo Inv 30 12099 [.int x, .int y] := jo_th (fun n h t nr rs X Y hn q => by
  obtain ⟨s, r1, r2, r3, r4, -⟩ := q.cl
  obtain ⟨b1, b2, -⟩ := q.mi
  obtain ⟨-, -, -, -, ⟨-, rl, -, ⟨rg1, rg2⟩, -⟩, -, ⟨wS, wl, -, wx, ⟨wg1, wg2⟩, -⟩, -⟩ := id q
  by_cases G : 0 < X.1.1.1 ∧ (¬ x < 1 ∧ ¬ 99 < x) ∧ (¬ y < 0 ∧ ¬ 2 < y)
  · obtain ⟨G1, G2, G3⟩ := G
    have ex : ∃ i, ¬ fa_cnt (ftB X.1 x X.2.2.2.1.2.1 X.2.2.2.1.2.2.1 X.2.2.2.1.2.2.2 X.2.2.2.1.1) (30 * X.1.1.1) = 0 → i < 30 * X.1.1.1 ∧ ftB X.1 x X.2.2.2.1.2.1 X.2.2.2.1.2.2.1 X.2.2.2.1.2.2.2 X.2.2.2.1.1 i = true ∧ fa_cnt (ftB X.1 x X.2.2.2.1.2.1 X.2.2.2.1.2.2.1 X.2.2.2.1.2.2.2 X.2.2.2.1.1) i = 0 := by
      by_cases c : fa_cnt (ftB X.1 x X.2.2.2.1.2.1 X.2.2.2.1.2.2.1 X.2.2.2.1.2.2.2 X.2.2.2.1.1) (30 * X.1.1.1) = 0
      · exact ⟨0, fun z => absurd c z⟩
      · obtain ⟨i, e⟩ := fc_first c
        exact ⟨i, fun _ => e⟩
    obtain ⟨i, hi⟩ := ex
    refine ⟨_, _, Or.inr ⟨s, rfl⟩, (t_Db_theft 193 q.1 r1 r2 r3 r4 G1 b1 rg1 wg1 rg2 wg2 x y G2 G3 hi).mono (fun r h1 e => ⟨e.1, e.2.mo (fun b hb => by omega)⟩), fun h1 S1 g1 m1 => (t_Mo_theft 194 S1 ⟨m1.st, m1.lg⟩ wS b1 wg1 wg2 x y G1 G2 G3 hi).mono (fun r h2 e => ⟨e.1, e.2.fin m1⟩)⟩
  · have g0 : ∀ k : Nat, k ≤ 10 → (0 < nI k ↔ 0 < k) := fun k hk => nI_ltI (a := 0) (by decide) (by omega)
    exact ⟨-1, h, Or.inl rfl, (t_Db_theft_n 193 q.1 r1 r3 x y (by rw [r4.1.1]; exact fun c => G ⟨(g0 _ b1).mp c.1.1, c.1.2, c.2⟩)).mono (fun r h1 e => ⟨e.1, by rw [e.2]; exact fC.rf⟩), fun h1 S1 g1 m1 => (t_Mo_theft_n 194 S1 x y (by rw [m1.st.1.1]; exact fun c => G ⟨(g0 _ b1).mp c.1, c.2⟩)).mono (fun r h2 e => ⟨e.1, by rw [e.2]; exact ⟨fM.rf, m1⟩⟩)⟩)
