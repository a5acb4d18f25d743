/-! keepsAct; how an act changes the world; undo -/
def mPa (h : jx_H) (p : Nat × (Nat → ML)) : Prop := h.2.1 253 51 = nI p.1 ∧ ∀ i, i < p.1 → mP (fun j => h.2.1 292 (40 * i + j)) (p.2 i)
def keeP (h h' : jx_H) : Prop := fC (fun b => b = 292 ∨ b = 253) h h' ∧ (∀ j, j ≠ 51 → j ≠ 52 → j ≠ 53 → h'.2.1 253 j = h.2.1 253 j) ∧ ∀ L p, mLa h.2.1 L → p.1 ≤ 20 → mPa h p → mPa h' (pushP p L)
theorem mP.eq {r r' : Nat → Int32} {L : ML} (q : mP r L) (e : ∀ j, j < 40 → r' j = r j) : mP r' L := by
  obtain ⟨c1, c2, c3, c4⟩ := q
  refine ⟨?_, ?_, fun m hm => ?_, fun v hv => ?_⟩
  · rw [e 0 (by omega)]; exact c1
  · rw [e 1 (by omega)]; exact c2
  · rw [e (2 + m) (by omega), e (12 + m) (by omega), e (22 + m) (by omega)]; exact c3 m hm
  · rw [e (32 + v) (by omega)]; exact c4 v hv
theorem kee_a {h h1 : jx_H} {k : Nat} (h51 : h.2.1 253 51 = nI k) (hk : k < 20) (e1 : fC (fun b => b = 292 ∨ b = 253) h h1) (e2 : ∀ j, j ≠ 52 → j ≠ 53 → h1.2.1 253 j = h.2.1 253 j) (e3 : ∀ L, mLa h.2.1 L → mP (fun j => h1.2.1 292 (40 * k + j)) L) (e4 : ∀ i, i < 40 * k ∨ 40 * k + 40 ≤ i → h1.2.1 292 i = h.2.1 292 i) : keeP h (jx_wI h1 253 51 (nI (k + 1))) := by
  refine ⟨e1.wI (Or.inr rfl), fun j h1 h2 h3 => ?_, fun L p hL hp hC => ?_⟩
  · rw [wI_at, jx_up_ne _ _ h1]; exact e2 j h2 h3
  · obtain ⟨a1, a2⟩ := hC
    have ep : p.1 = k := (nI_eq (by omega) (by omega)).mp (a1.symm.trans h51)
    have e5 : pushP p L = (k + 1, fun i => if i = k then L else p.2 i) := by unfold pushP; rw [if_neg (by omega), ep]
    rw [e5]
    refine ⟨by rw [wI_at, jx_up_self], fun i hi => ?_⟩
    rw [wI_ne _ _ _ (show 292 ≠ 253 by decide)]
    show mP _ (if i = k then L else p.2 i)
    by_cases c : i = k
    · rw [if_pos c, c]; exact e3 L hL
    · rw [if_neg c]
      have hi' : i < k + 1 := hi
      exact (a2 i (by omega)).eq (fun j hj => e4 _ (by omega))
theorem kee_b {h h0 h1 : jx_H} (h51 : h.2.1 253 51 = nI 20) (z1 : fC (fun b => b = 292) h h0) (z2 : ∀ j, j < 760 → h0.2.1 292 j = h.2.1 292 (j + 40)) (e1 : fC (fun b => b = 292 ∨ b = 253) (jx_wI h0 253 51 (nI 19)) h1) (e2 : ∀ j, j ≠ 52 → j ≠ 53 → h1.2.1 253 j = (jx_wI h0 253 51 (nI 19)).2.1 253 j) (e3 : ∀ L, mLa (jx_wI h0 253 51 (nI 19)).2.1 L → mP (fun j => h1.2.1 292 (40 * 19 + j)) L) (e4 : ∀ i, i < 40 * 19 ∨ 40 * 19 + 40 ≤ i → h1.2.1 292 i = (jx_wI h0 253 51 (nI 19)).2.1 292 i) : keeP h (jx_wI h1 253 51 (nI 20)) := by
  have f0 : fC (fun b => b = 292 ∨ b = 253) h (jx_wI h0 253 51 (nI 19)) := (z1.mo (fun b hb => Or.inl hb)).wI (Or.inr rfl)
  refine ⟨(f0.tr e1).wI (Or.inr rfl), fun j h1 h2 h3 => ?_, fun L p hL hp hC => ?_⟩
  · rw [wI_at, jx_up_ne _ _ h1, e2 j h2 h3, wI_at, jx_up_ne _ _ h1, z1.2 253 (by decide)]
  · obtain ⟨a1, a2⟩ := hC
    have ep : p.1 = 20 := (nI_eq (by omega) (by omega)).mp (a1.symm.trans h51)
    have e5 : pushP p L = (20, fun i => if i = 19 then L else p.2 (i + 1)) := by unfold pushP; rw [if_pos ep]
    rw [e5]
    refine ⟨by rw [wI_at, jx_up_self], fun i hi => ?_⟩
    rw [wI_ne _ _ _ (show 292 ≠ 253 by decide)]
    show mP _ (if i = 19 then L else p.2 (i + 1))
    by_cases c : i = 19
    · rw [if_pos c, c]
      exact e3 L (hL.of (f0.2 255 (by omega)) (f0.2 256 (by omega)) (f0.2 257 (by omega)) (f0.2 262 (by omega)) (by rw [f0.2 254 (by omega)]) (by rw [f0.2 254 (by omega)]))
    · rw [if_neg c]
      have hi' : i < 20 := hi
      refine (a2 (i + 1) (by omega)).eq (fun j hj => ?_)
      rw [e4 _ (by omega), wI_ne _ _ _ (show 292 ≠ 253 by decide), z2 _ (by omega), show 40 * i + j + 40 = 40 * (i + 1) + j by omega]
set_option maxHeartbeats 2000000 in
theorem t_Mo_keepsAct_a (d : Nat) {bc bs : Nat} {h : jx_H} {k : Nat} (H : jx_St h) (h51 : h.2.1 253 51 = nI k) (hk : k < 20) : jx_Tr (d + 4) bc bs 12056 [.ref 253] h (fun r h' => r = none ∧ keeP h h') := by
  refine jx_tr jM_Mo_keepsAct rfl rfl (lv := [some (.ref 253), none]) rfl ?_
  refine je_aload0 (pc := 0) d12056_0 rfl ?_
  refine ju_geti (pc := 1) d12056_1 jF_12_361 rfl (sK253 H) ?_
  refine ju_eqi (v := nI k) h51 ?_
  refine je_bipush (pc := 4) (v := 20) d12056_4 rfl ?_
  refine je_icne (pc := 6) 50 d12056_6 (by decide) (fun c6 => ?_) (fun c6 => absurd c6 (fun z => absurd ((nI_eq (b := 20) (by omega) (by omega)).mp z) (by omega)))
  refine je_aload0 (pc := 50) d12056_50 rfl ?_
  refine je_aload0 (pc := 51) d12056_51 rfl ?_
  refine ju_geti (pc := 52) d12056_52 jF_12_361 rfl (sK253 H) ?_
  refine ju_eqi (v := nI k) h51 ?_
  refine je_iconst (pc := 55) (v := 0) d12056_55 rfl ?_
  refine ju_callv (pc := 56) (as := [_, _]) d12056_56 jL_12_456 jM_Mo_movesAll rfl (by decide) (sK253 H) rfl (by exact Nat.le_of_ble_eq_true rfl) (t_Mo_movesAll d (k := k) H (by omega)) (fun r56 h56 q56 => ?_)
  obtain ⟨rfl, w1, w2, w3, w4⟩ := q56
  have H9 := w1.St H
  refine je_aload0 (pc := 59) d12056_59 rfl ?_
  refine je_dup (pc := 60) d12056_60 rfl ?_
  refine ju_geti (pc := 61) d12056_61 jF_12_361 rfl (sK253 H9) ?_
  refine ju_eqi (v := nI k) (by rw [w2 51 (by decide) (by decide)]; exact h51) ?_
  refine je_iconst (pc := 64) (v := 1) d12056_64 rfl ?_
  refine je_iadd (pc := 65) d12056_65 ?_
  refine ju_eqi (v := nI (k + 1)) (nI_1 k) ?_
  refine ju_puti (pc := 66) d12056_66 jF_12_361 rfl (sK253 H9) ?_
  refine je_ret (pc := 69) d12056_69 rfl ?_
  exact ⟨rfl, kee_a h51 hk w1 w2 w3 w4⟩
set_option maxHeartbeats 2000000 in
theorem t_Mo_keepsAct_b (d : Nat) {bc bs : Nat} {h : jx_H} (H : jx_St h) (h51 : h.2.1 253 51 = nI 20) : jx_Tr (d + 4) bc bs 12056 [.ref 253] h (fun r h' => r = none ∧ keeP h h') := by
  refine jx_tr jM_Mo_keepsAct rfl rfl (lv := [some (.ref 253), none]) rfl ?_
  refine je_aload0 (pc := 0) d12056_0 rfl ?_
  refine ju_geti (pc := 1) d12056_1 jF_12_361 rfl (sK253 H) ?_
  refine ju_eqi (v := nI 20) h51 ?_
  refine je_bipush (pc := 4) (v := 20) d12056_4 rfl ?_
  refine je_icne (pc := 6) 50 d12056_6 (by decide) (fun c6 => absurd c6 (fun z => z rfl)) (fun c6 => ?_)
  refine je_bipush (pc := 9) (v := 40) d12056_9 rfl ?_
  refine ju_istore1 (pc := 11) (lv' := [some _, some _]) d12056_11 rfl rfl ?_
  refine je_loop (σ := Unit) (760) (fun k xx => [some (.ref 253), some (.int (nI (40 + k)))]) (fun k _ h' => fC (fun b => b = 292) h h' ∧ (∀ j, j < k → h'.2.1 292 j = h.2.1 292 (j + 40)) ∧ ∀ j, k ≤ j → h'.2.1 292 j = h.2.1 292 j) (fun k xx h' hk e kk => ?_) (fun xx h' e => ?_) (0) () h (by omega) ⟨fC.rf, fun j hj => absurd hj (Nat.not_lt_zero j), fun _ _ => rfl⟩
  · obtain ⟨z1, z2, z3⟩ := e
    have H1 := z1.St H
    refine je_iload1 (pc := 12) d12056_12 rfl ?_
    refine je_sipush (pc := 13) (v := 800) d12056_13 rfl ?_
    refine ju_icge (pc := 16) 40 d12056_16 (by decide) (fun c16 => absurd c16 (fun z => z (nI_lt (b := 800) (by omega) (by decide)))) (fun c16 => ?_)
    refine je_aload0 (pc := 19) d12056_19 rfl ?_
    refine ju_getr (pc := 20) (b := 292) d12056_20 jF_12_130 rfl (sK253 H1) (sR253_49 H1) ?_
    refine je_iload1 (pc := 23) d12056_23 rfl ?_
    refine je_bipush (pc := 24) (v := 40) d12056_24 rfl ?_
    refine je_isub (pc := 26) d12056_26 ?_
    refine ju_eqi (v := nI k) (nI_sub (b := 40) (by omega)) ?_
    refine je_aload0 (pc := 27) d12056_27 rfl ?_
    refine ju_getr (pc := 28) (b := 292) d12056_28 jF_12_130 rfl (sK253 H1) (sR253_49 H1) ?_
    refine je_iload1 (pc := 31) d12056_31 rfl ?_
    refine ju_iald (pc := 32) (jn := (40 + k)) d12056_32 (sK292 H1) (vp_in_nI (by omega) (by decide)) (nI_clamp (by omega)) ?_
    refine ju_iast (pc := 33) (jn := (k)) d12056_33 (sK292 H1) (vp_in_nI (by omega) (by decide)) (nI_clamp (by omega)) ?_
    refine ju_inc (pc := 34) (y := 1) (lv' := [some _, some _]) d12056_34 rfl rfl rfl ?_
    refine je_goto (pc := 37) 12 d12056_37 (by decide) ?_
    rw [nI_1 (40 + k), Nat.add_assoc]
    refine kk () _ ⟨z1.wI rfl, fun j hj => ?_, fun j hj => ?_⟩
    · rw [wI_at]
      by_cases c : j = k
      · rw [c, jx_up_self, z3 _ (by omega), Nat.add_comm]
      · rw [jx_up_ne _ _ c]; exact z2 j (by omega)
    · rw [wI_at, jx_up_ne _ _ (by omega)]; exact z3 j (by omega)
  · obtain ⟨z1, z2, z3⟩ := e
    have H1 := z1.St H
    refine je_iload1 (pc := 12) d12056_12 rfl ?_
    refine je_sipush (pc := 13) (v := 800) d12056_13 rfl ?_
    refine ju_icge (pc := 16) 40 d12056_16 (by decide) (fun c16 => ?_) (fun c16 => absurd c16 (nI_nlt (a := 40 + 760) (b := 800) (Nat.le_refl 800) (by decide)))
    refine je_aload0 (pc := 40) d12056_40 rfl ?_
    refine je_dup (pc := 41) d12056_41 rfl ?_
    refine ju_geti (pc := 42) d12056_42 jF_12_361 rfl (sK253 H1) ?_
    refine ju_eqi (v := nI 20) (by rw [z1.2 253 (by decide)]; exact h51) ?_
    refine je_iconst (pc := 45) (v := 1) d12056_45 rfl ?_
    refine je_isub (pc := 46) d12056_46 ?_
    refine ju_eqi (v := nI 19) (nI_sub (a := 20) (b := 1) (c := 19) rfl) ?_
    refine ju_puti (pc := 47) d12056_47 jF_12_361 rfl (sK253 H1) ?_
    refine je_aload0 (pc := 50) d12056_50 rfl ?_
    refine je_aload0 (pc := 51) d12056_51 rfl ?_
    refine ju_geti (pc := 52) d12056_52 jF_12_361 rfl (sK253 H1.wI) ?_
    refine ju_eqi (v := nI 19) (by rw [wI_at, jx_up_self]) ?_
    refine je_iconst (pc := 55) (v := 0) d12056_55 rfl ?_
    refine ju_callv (pc := 56) (as := [_, _]) d12056_56 jL_12_456 jM_Mo_movesAll rfl (by decide) (sK253 H1.wI) rfl (by exact Nat.le_of_ble_eq_true rfl) (t_Mo_movesAll d (k := 19) H1.wI (by omega)) (fun r56 h56 q56 => ?_)
    obtain ⟨rfl, w1, w2, w3, w4⟩ := q56
    have H9 := w1.St H1.wI
    refine je_aload0 (pc := 59) d12056_59 rfl ?_
    refine je_dup (pc := 60) d12056_60 rfl ?_
    refine ju_geti (pc := 61) d12056_61 jF_12_361 rfl (sK253 H9) ?_
    refine ju_eqi (v := nI 19) (by rw [w2 51 (by decide) (by decide), wI_at, jx_up_self]) ?_
    refine je_iconst (pc := 64) (v := 1) d12056_64 rfl ?_
    refine je_iadd (pc := 65) d12056_65 ?_
    refine ju_eqi (v := nI 20) (nI_1 19) ?_
    refine ju_puti (pc := 66) d12056_66 jF_12_361 rfl (sK253 H9) ?_
    refine je_ret (pc := 69) d12056_69 rfl ?_
    exact ⟨rfl, kee_b h51 z1 z2 w1 w2 w3 w4⟩
theorem t_Mo_keepsAct (d : Nat) {bc bs : Nat} {h : jx_H} {k : Nat} (H : jx_St h) (h51 : h.2.1 253 51 = nI k) (hk : k ≤ 20) : jx_Tr (d + 4) bc bs 12056 [.ref 253] h (fun r h' => r = none ∧ keeP h h') := by
  rcases Nat.lt_or_ge k 20 with c | c
  · exact t_Mo_keepsAct_a d H h51 c
  · exact t_Mo_keepsAct_b d H (by rw [h51, show k = 20 by omega])
/-- how an act changes the world: the class -/
theorem rW.act {h h1 h2 : jx_H} {X : MW} {L' : ML} (r : rW h 26 X) (hp : X.2.2.2.2.1 ≤ 20) (a : remP h h1) (b : fC (fun b => 40 ≤ b ∧ b ≤ 44) h1 h2) (l : rL h2.2.1 40 L') : fC cRow h h2 ∧ rW h2 26 (X.1, L', X.2.2.1, X.2.2.2.1, pushP X.2.2.2.2 X.2.1) := by
  obtain ⟨-, r5, r6, r7, o, r8, r9, r10, r11⟩ := id r
  have f : fC (fun b => b = 26 ∨ b = 48 ∨ 40 ≤ b ∧ b ≤ 44) h h2 := (a.1.mo (fun b hb => by omega)).tr (b.mo (fun b hb => by omega))
  refine ⟨f.mo (fun b hb => by unfold cRow kRow sRow; omega), r.ch f (fun b hb => by unfold sRow; omega) rfl l ?_ ?_ ?_⟩
  · rw [b.2 26 (by omega), a.2.1 2 (by decide) (by decide), a.2.1 3 (by decide) (by decide)]; exact r6
  · rw [b.2 26 (by omega), a.2.1 4 (by decide) (by decide), f.2 (26 + 19) (by omega), f.2 (26 + 20) (by omega), f.2 (26 + 21) (by omega)]; exact r7
  · obtain ⟨o', c1, c2, c3, c4⟩ := a.2.2 X.2.1 X.2.2.2.2 o r5 hp ⟨r8, r9, r10, r11⟩
    refine ⟨o', c1, ?_, ?_, ?_⟩
    · rw [b.2 26 (by omega)]; exact c2
    · rw [b.2 26 (by omega)]; exact c3
    · rw [b.2 (26 + 22) (by omega)]; exact c4
theorem mW.act {h h1 h2 : jx_H} {X : MW} {L' : ML} (m : mW (gN h) X) (hp : X.2.2.2.2.1 ≤ 20) (a : keeP h h1) (b : fC (fun b => 254 ≤ b ∧ b ≤ 257 ∨ b = 262 ∨ 288 ≤ b ∧ b ≤ 291) h1 h2) (b4 : ∀ j, j ≠ 4 → j ≠ 5 → h2.2.1 254 j = h1.2.1 254 j) (l : mLa h2.2.1 L') : fM h h2 ∧ mW (gN h2) (X.1, L', X.2.2.1, X.2.2.2.1, pushP X.2.2.2.2 X.2.1) := by
  have f : fC (fun b => b = 253 ∨ b = 292 ∨ 254 ≤ b ∧ b ≤ 257 ∨ b = 262 ∨ 288 ≤ b ∧ b ≤ 291) h h2 := (a.1.mo (fun b hb => by omega)).tr (b.mo (fun b hb => by omega))
  have k : ∀ j, j ≠ 51 → j ≠ 52 → j ≠ 53 → h2.2.1 253 j = h.2.1 253 j := fun j h1 h2 h3 => by rw [b.2 253 (by omega)]; exact a.2.1 j h1 h2 h3
  have k4 : ∀ j, j ≠ 4 → j ≠ 5 → h2.2.1 254 j = h.2.1 254 j := fun j h1 h2 => by rw [b4 j h1 h2, a.1.2 254 (by omega)]
  refine ⟨fM.of f (fun b hb => by unfold mRow; omega) (k _ (by decide) (by decide) (by decide)) (k _ (by decide) (by decide) (by decide)) (k _ (by decide) (by decide) (by decide)), m.mk rfl (fun a ha => f.2 a (by omega)) (fun j hj => k4 j (by omega) (by omega)) l ?_ ?_ ?_⟩
  · rw [k4 8 (by decide) (by decide), k4 7 (by decide) (by decide)]; exact m.fx
  · rw [k4 6 (by decide) (by decide), f.2 265 (by omega), f.2 266 (by omega), f.2 267 (by omega)]; exact m.lg
  · obtain ⟨c1, c2⟩ := a.2.2 X.2.1 X.2.2.2.2 m.la hp m.pa
    rw [b.2 253 (by omega), b.2 292 (by omega)]
    exact ⟨c1, c2⟩
theorem wfW.act {n nr : Nat} {X : MW} {L' : ML} (w : wfW n nr X) (l : wfL (n + 1) X.1.1.1 X.1.1.2.1 L') : wfW (n + 1) nr (X.1, L', X.2.2.1, X.2.2.2.1, pushP X.2.2.2.2 X.2.1) := by
  obtain ⟨w1, w2, w3, w4, w5, w6, w7⟩ := w
  refine ⟨w1, l, w3, w4, w5, ?_⟩
  show (pushP X.2.2.2.2 X.2.1).1 ≤ 20 ∧ ∀ i, i < (pushP X.2.2.2.2 X.2.1).1 → wfL (n + 1) X.1.1.1 X.1.1.2.1 ((pushP X.2.2.2.2 X.2.1).2 i)
  unfold pushP
  by_cases c : X.2.2.2.2.1 = 20
  · rw [if_pos c]
    refine ⟨Nat.le_refl 20, fun i hi => ?_⟩
    show wfL _ _ _ (if i = 19 then X.2.1 else X.2.2.2.2.2 (i + 1))
    by_cases c2 : i = 19
    · rw [if_pos c2]; exact w2.up (Nat.le_succ n)
    · rw [if_neg c2]
      have hi' : i < 20 := hi
      exact (w7 (i + 1) (by omega)).up (Nat.le_succ n)
  · rw [if_neg c]
    refine ⟨by show X.2.2.2.2.1 + 1 ≤ 20; omega, fun i hi => ?_⟩
    show wfL _ _ _ (if i = X.2.2.2.2.1 then X.2.1 else X.2.2.2.2.2 i)
    by_cases c2 : i = X.2.2.2.2.1
    · rw [if_pos c2]; exact w2.up (Nat.le_succ n)
    · rw [if_neg c2]
      have hi' : i < X.2.2.2.2.1 + 1 := hi
      exact (w7 i (by omega)).up (Nat.le_succ n)
/-- an operation that is an act, or refused -/
theorem jo_act {jc jm : Nat} {as : List Value} (f : ∀ n h t nr rs X Y, n < 512 → InvX n h t nr rs X Y →
    (∃ v : Int32, jx_Tr 199 13 206 jc (.ref 1 :: as) h (fun r h' => r = some (.int v) ∧ h' = h) ∧ ∀ h1, jx_St h1 → (∀ b, 253 ≤ b → b ≤ 303 → h1.2.1 b = h.2.1 b) → mW (gN h1) X → jx_Tr 199 0 0 jm (.ref 253 :: as) h1 (fun r h' => r = some (.int v) ∧ h' = h1)) ∨
    (∃ (v : Int32) (L' : ML), wfL (n + 1) X.1.1.1 X.1.1.2.1 L' ∧ jx_Tr 199 13 206 jc (.ref 1 :: as) h (fun r h2 => r = some (.int v) ∧ ∃ h1, remP h h1 ∧ fC (fun b => 40 ≤ b ∧ b ≤ 44) h1 h2 ∧ rL h2.2.1 40 L') ∧
      ∀ h1, jx_St h1 → (∀ b, 253 ≤ b → b ≤ 303 → h1.2.1 b = h.2.1 b) → mW (gN h1) X → jx_Tr 199 0 0 jm (.ref 253 :: as) h1 (fun r h3 => r = some (.int v) ∧ ∃ h2, keeP h1 h2 ∧ fC (fun b => 254 ≤ b ∧ b ≤ 257 ∨ b = 262 ∨ 288 ≤ b ∧ b ≤ 291) h2 h3 ∧ (∀ j, j ≠ 4 → j ≠ 5 → h3.2.1 254 j = h2.2.1 254 j) ∧ mLa h3.2.1 L'))) : jo Inv jc jm as := by
  refine jo_st (fun n h t nr rs X Y hn q => ?_)
  obtain ⟨Q1, Q2, Q3, Q4, Q5, Q6, Q7, Q8, Q9⟩ := id q
  have hp := Q7.2.2.2.2.2.1
  rcases f n h t nr rs X Y hn q with ⟨v, c, m⟩ | ⟨v, L', w, c, m⟩
  · refine ⟨v, X, h, q.B, ⟨rfl, rfl⟩, Q7.up (Nat.le_succ n) (Nat.le_refl nr), Q8, c.mono (fun r h1 e => ?_), fun h1 S1 g1 m1 => (m h1 S1 g1 m1).mono (fun r h2 e => ?_)⟩
    · obtain ⟨rfl, rfl⟩ := e
      exact ⟨rfl, fC.rf, Q5⟩
    · obtain ⟨rfl, rfl⟩ := e
      exact ⟨rfl, fM.rf, m1⟩
  · refine ⟨v, (X.1, L', X.2.2.1, X.2.2.2.1, pushP X.2.2.2.2 X.2.1), h, q.B, ⟨rfl, rfl⟩, Q7.act w, Q8.of rfl rfl rfl, c.mono (fun r h2 e => ?_), fun h1 S1 g1 m1 => (m h1 S1 g1 m1).mono (fun r h3 e => ?_)⟩
    · obtain ⟨rfl, h1, e1, e2, e3⟩ := e
      exact ⟨rfl, Q5.act hp e1 e2 e3⟩
    · obtain ⟨rfl, h2, e1, e2, e3, e4⟩ := e
      exact ⟨rfl, m1.act hp e1 e2 e3 e4⟩
