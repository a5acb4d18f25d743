/-! seed, end -/
set_option maxHeartbeats 2000000 in
theorem t_Db_seed (d : Nat) {bc bs : Nat} {h : jx_H} (H : jx_St h) (x : Int32) : jx_Tr (d + 1) bc bs 37 [.ref 1, .int x] h (fun r h' => r = some (.int (if x < 0 then -1 else h.2.1 26 3)) ∧ h' = if x < 0 then h else jx_wI h 26 3 x) := by
  refine jx_tr jM_Db_seed rfl rfl (lv := [some (.ref 1), some (.int x), none]) rfl ?_
  refine je_iload1 (pc := 0) d37_0 rfl ?_
  refine ju_ifge (pc := 1) 6 d37_1 (by decide) (fun c1 => ?_) (fun c1 => ?_)
  · refine je_aload0 (pc := 6) d37_6 rfl ?_
    refine ju_getr (pc := 7) (b := 26) d37_7 jF_0_41 rfl (sK1 H) (sR1_5 H) ?_
    refine ju_geti (pc := 10) d37_10 jF_0_298 rfl (sK26 H) ?_
    refine ju_istore2 (pc := 13) (lv' := [some _, some _, some _]) d37_13 rfl rfl ?_
    refine je_aload0 (pc := 14) d37_14 rfl ?_
    refine ju_getr (pc := 15) (b := 26) d37_15 jF_0_41 rfl (sK1 H) (sR1_5 H) ?_
    refine je_iload1 (pc := 18) d37_18 rfl ?_
    refine ju_puti (pc := 19) d37_19 jF_0_298 rfl (sK26 H) ?_
    refine je_iload2 (pc := 22) d37_22 rfl ?_
    refine je_iret (pc := 23) d37_23 rfl ?_
    simp [*]
  · refine je_iconst (pc := 4) (v := -1) d37_4 rfl ?_
    refine je_iret (pc := 5) d37_5 rfl ?_
    simp [*]
set_option maxHeartbeats 2000000 in
theorem t_Mo_seed (d : Nat) {bc bs : Nat} {h : jx_H} (H : jx_St h) (x : Int32) : jx_Tr (d + 1) bc bs 12107 [.ref 253, .int x] h (fun r h' => r = some (.int (if x < 0 then -1 else h.2.1 254 7)) ∧ h' = if x < 0 then h else jx_wI h 254 7 x) := by
  refine jx_tr jM_Mo_seed rfl rfl (lv := [some (.ref 253), some (.int x), none]) rfl ?_
  refine je_iload1 (pc := 0) d12107_0 rfl ?_
  refine ju_ifge (pc := 1) 6 d12107_1 (by decide) (fun c1 => ?_) (fun c1 => ?_)
  · refine je_aload0 (pc := 6) d12107_6 rfl ?_
    refine ju_getr (pc := 7) (b := 254) d12107_7 jF_12_9 rfl (sK253 H) (sR253_1 H) ?_
    refine je_bipush (pc := 10) (v := 7) d12107_10 rfl ?_
    refine ju_iald (pc := 12) (jn := 7) d12107_12 (sK254 H) (by first | assumption | exact jx_ok_dec (by decide)) (by decide) ?_
    refine ju_istore2 (pc := 13) (lv' := [some _, some _, some _]) d12107_13 rfl rfl ?_
    refine je_aload0 (pc := 14) d12107_14 rfl ?_
    refine ju_getr (pc := 15) (b := 254) d12107_15 jF_12_9 rfl (sK253 H) (sR253_1 H) ?_
    refine je_bipush (pc := 18) (v := 7) d12107_18 rfl ?_
    refine je_iload1 (pc := 20) d12107_20 rfl ?_
    refine ju_iast (pc := 21) (jn := 7) d12107_21 (sK254 H) (by first | assumption | exact jx_ok_dec (by decide)) (by decide) ?_
    refine je_iload2 (pc := 22) d12107_22 rfl ?_
    refine je_iret (pc := 23) d12107_23 rfl ?_
    simp [*]
  · refine je_iconst (pc := 4) (v := -1) d12107_4 rfl ?_
    refine je_iret (pc := 5) d12107_5 rfl ?_
    simp [*]
set_option maxHeartbeats 2000000 in
theorem t_Db_end (d : Nat) {bc bs : Nat} {h : jx_H} (H : jx_St h) (x : Int32) : jx_Tr (d + 1) bc bs 2 [.ref 1, .int x] h (fun r h' => r = some (.int (if x < 0 ∨ h.2.1 2 1 < x then -1 else x)) ∧ h' = if x < 0 ∨ h.2.1 2 1 < x then h else jx_wI h 2 1 x) := by
  refine jx_tr jM_Db_end rfl rfl (lv := [some (.ref 1), some (.int x)]) rfl ?_
  refine je_iload1 (pc := 0) d2_0 rfl ?_
  refine je_iflt (pc := 1) 15 d2_1 (by decide) (fun c1 => ?_) (fun c1 => ?_)
  · refine je_iconst (pc := 15) (v := -1) d2_15 rfl ?_
    refine je_iret (pc := 16) d2_16 rfl ?_
    simp [*]
  · refine je_iload1 (pc := 4) d2_4 rfl ?_
    refine je_aload0 (pc := 5) d2_5 rfl ?_
    refine ju_getr (pc := 6) (b := 2) d2_6 jF_0_10 rfl (sK1 H) (sR1_0 H) ?_
    refine ju_geti (pc := 9) d2_9 jF_0_84 rfl (sK2 H) ?_
    refine ju_icle (pc := 12) 17 d2_12 (by decide) (fun c12 => ?_) (fun c12 => ?_)
    · refine je_aload0 (pc := 17) d2_17 rfl ?_
      refine ju_getr (pc := 18) (b := 2) d2_18 jF_0_10 rfl (sK1 H) (sR1_0 H) ?_
      refine je_iload1 (pc := 21) d2_21 rfl ?_
      refine ju_puti (pc := 22) d2_22 jF_0_84 rfl (sK2 H) ?_
      refine je_iload1 (pc := 25) d2_25 rfl ?_
      refine je_iret (pc := 26) d2_26 rfl ?_
      simp [*]
    · refine je_iconst (pc := 15) (v := -1) d2_15 rfl ?_
      refine je_iret (pc := 16) d2_16 rfl ?_
      simp [*]
set_option maxHeartbeats 2000000 in
theorem t_Mo_end (d : Nat) {bc bs : Nat} {h : jx_H} (H : jx_St h) (x : Int32) : jx_Tr (d + 1) bc bs 12003 [.ref 253, .int x] h (fun r h' => r = some (.int (if x < 0 ∨ h.2.1 253 27 < x then -1 else x)) ∧ h' = if x < 0 ∨ h.2.1 253 27 < x then h else jx_wI h 253 27 x) := by
  refine jx_tr jM_Mo_end rfl rfl (lv := [some (.ref 253), some (.int x)]) rfl ?_
  refine je_iload1 (pc := 0) d12003_0 rfl ?_
  refine je_iflt (pc := 1) 12 d12003_1 (by decide) (fun c1 => ?_) (fun c1 => ?_)
  · refine je_iconst (pc := 12) (v := -1) d12003_12 rfl ?_
    refine je_iret (pc := 13) d12003_13 rfl ?_
    simp [*]
  · refine je_iload1 (pc := 4) d12003_4 rfl ?_
    refine je_aload0 (pc := 5) d12003_5 rfl ?_
    refine ju_geti (pc := 6) d12003_6 jF_12_185 rfl (sK253 H) ?_
    refine ju_icle (pc := 9) 14 d12003_9 (by decide) (fun c9 => ?_) (fun c9 => ?_)
    · refine je_aload0 (pc := 14) d12003_14 rfl ?_
      refine je_iload1 (pc := 15) d12003_15 rfl ?_
      refine ju_puti (pc := 16) d12003_16 jF_12_185 rfl (sK253 H) ?_
      refine je_iload1 (pc := 19) d12003_19 rfl ?_
      refine je_iret (pc := 20) d12003_20 rfl ?_
      simp [*]
    · refine je_iconst (pc := 12) (v := -1) d12003_12 rfl ?_
      refine je_iret (pc := 13) d12003_13 rfl ?_
      simp [*]
theorem mW.sc7 {g g' : Nat → Nat → Int32} {X : MW} {x : Int32} (r : mW g X) (e : ∀ a j, ¬ (a = 254 ∧ j = 7) → 253 ≤ a → g' a j = g a j) (e7 : g' 254 7 = x) : mW g' (X.1, X.2.1, (X.2.2.1.1, x), X.2.2.2) := by
  have k : ∀ a, a ≠ 254 → 253 ≤ a → g' a = g a := fun a h1 h2 => funext fun j => e a j (fun z => h1 z.1) h2
  have k4 : ∀ j, j ≠ 7 → g' 254 j = g 254 j := fun j h1 => e 254 j (fun z => h1 z.2) (by omega)
  unfold mW mSt mLa at r ⊢
  rw [k 255 (by omega) (by omega), k 256 (by omega) (by omega), k 257 (by omega) (by omega), k 258 (by omega) (by omega), k 259 (by omega) (by omega), k 260 (by omega) (by omega), k 261 (by omega) (by omega), k 262 (by omega) (by omega), k 263 (by omega) (by omega), k 264 (by omega) (by omega), k 265 (by omega) (by omega), k 266 (by omega) (by omega), k 267 (by omega) (by omega), k 268 (by omega) (by omega), k 269 (by omega) (by omega), k 292 (by omega) (by omega), k 293 (by omega) (by omega), k4 0 (by omega), k4 1 (by omega), k4 2 (by omega), k4 3 (by omega), k4 4 (by omega), k4 5 (by omega), k4 6 (by omega), k4 8 (by omega), e7]
  exact ⟨r.1, r.2.1, ⟨r.2.2.1.1, rfl⟩, r.2.2.2⟩
/-- a world, one of whose own numbers was written -/
theorem rW.sc {h : jx_H} {w k : Nat} {v : Int32} {X : MW} (r : rW h w X) (hw : ¬ sRow w) : (∃ s, (jx_wI h w k v).2.2.2 w 0 = some s ∧ sA s ∧ jx_Sp (jx_wI h w k v) s ∧ rS (jx_wI h w k v).2.1 s X.1) ∧ rL (jx_wI h w k v).2.1 (w + 14) X.2.1 ∧ (∀ b, w < b → (jx_wI h w k v).2.1 b = h.2.1 b) := by
  obtain ⟨⟨s, r1, r2, r3, r4⟩, r5, -⟩ := r
  refine ⟨⟨s, r1, r2, r3.wI, r4.of (fun b h1 h2 => wI_ne h k v (fun e => hw (e ▸ sRow_of r2 h1 h2)))⟩, r5.of (fun b h1 h2 => wI_ne h k v (by omega)), fun b hb => wI_ne h k v (by omega)⟩
theorem nsR26 : ¬ sRow 26 := by unfold sRow; omega
theorem op_seed (x : Int32) : jo Inv 37 12107 [.int x] := by
  intro n h hn q
  obtain ⟨t, nr, rs, X, Y, q⟩ := q
  refine (t_Db_seed 198 q.1 x).mono (fun r h1 hq => ?_)
  obtain ⟨rfl, rfl⟩ := hq
  by_cases hx : x < 0
  · rw [if_pos hx, if_pos hx]
    refine ⟨⟨rfl, rfl, sK253 q.1⟩, -1, rfl, (t_Mo_seed 198 q.1 x).mono (fun r' h2 hq2 => ?_)⟩
    obtain ⟨rfl, rfl⟩ := hq2
    rw [if_pos hx, if_pos hx]
    exact ⟨rfl, rfl, t, nr, rs, X, Y, q.up (by omega)⟩
  · rw [if_neg hx, if_neg hx]
    refine ⟨⟨wI_ne h 3 x (by decide), rfl, sK253 q.1.wI⟩, h.2.1 26 3, rfl, (t_Mo_seed 198 q.1.wI x).mono (fun r' h2 hq2 => ?_)⟩
    obtain ⟨rfl, rfl⟩ := hq2
    rw [if_neg hx, if_neg hx]
    obtain ⟨q1, q2, q3, q4, q5, q6, q7, q8, q9⟩ := id q
    have e1 : h.2.1 26 3 = X.2.2.1.2 := q5.2.2.1.2
    have e2 : h.2.1 254 7 = X.2.2.1.2 := q6.2.2.1.2
    refine ⟨by rw [wI_ne h 3 x (show 254 ≠ 26 by decide), e1, e2], rfl, t, nr, rs, (X.1, X.2.1, (X.2.2.1.1, x), X.2.2.2), Y, InvX.now q ((keepN.rf.wI ⟨by unfold kRow sRow; omega, by decide, by decide⟩).wI ⟨by unfold kRow sRow; omega, by decide, by decide⟩) ?_ ?_ ?_ (q8.of rfl rfl rfl)⟩
    · have r1 : rW (jx_wI h 26 3 x) 26 (X.1, X.2.1, (X.2.2.1.1, x), X.2.2.2) := by
        obtain ⟨s1, s2, s3⟩ := q5.sc (k := 3) (v := x) nsR26
        obtain ⟨-, -, f, l, pa⟩ := q5
        refine ⟨s1, s2, ?_, ?_, ?_⟩
        · rw [wI_at, jx_up_ne _ _ (by decide), jx_up_self]; exact ⟨f.1, rfl⟩
        · rw [wI_at, jx_up_ne _ _ (by decide), s3 (26 + 19) (by omega), s3 (26 + 20) (by omega), s3 (26 + 21) (by omega)]; exact l
        · rw [wI_at, jx_up_ne _ _ (by decide), jx_up_ne _ _ (by decide), s3 (26 + 22) (by omega)]; exact pa
      exact r1.of (fun b hb => wI_ne _ 7 x (by unfold sRow at hb; omega)) (fun s _ hs => hs.wI) (fun b h1 h2 => wI_ne _ 7 x (by omega)) rfl
    · have hg : ∀ a j, ¬ (a = 254 ∧ j = 7) → 253 ≤ a → gN (jx_wI (jx_wI h 26 3 x) 254 7 x) a j = gN h a j := by
        intro a j hne ha
        unfold gN
        rw [wI_ne _ 7 x (show 253 ≠ 254 by decide), wI_ne h 3 x (show 253 ≠ 26 by decide)]
        by_cases e : a = 254
        · subst e
          rw [wI_at, jx_up_ne _ _ (fun z => hne ⟨rfl, z⟩), wI_ne h 3 x (by omega)]
        · rw [wI_ne _ 7 x e, wI_ne h 3 x (by omega)]
      have hg7 : gN (jx_wI (jx_wI h 26 3 x) 254 7 x) 254 7 = x := by
        show (jx_wI (jx_wI h 26 3 x) 254 7 x).2.1 254 7 = x
        rw [wI_at, jx_up_self]
      exact q6.sc7 hg hg7
    · obtain ⟨w1, w2, w3, w4, w5, w6⟩ := q7.up (Nat.le_succ n) (Nat.le_refl nr)
      refine ⟨w1, w2, w3, ⟨?_, ?_⟩, w5, w6⟩
      · have := Int32.not_lt.mp hx
        simpa using Int32.le_iff_toInt_le.mp this
      · have h1 := Int32.toInt_le x
        rw [show Int32.maxValue.toInt = 2147483647 from by decide] at h1
        exact h1
