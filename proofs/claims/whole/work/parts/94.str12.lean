/-! a strip told: the class takes it -/
theorem jx_Sp.w26 {h : jx_H} {s a : Nat} {v : Option Nat} (H : jx_Sp h s) (hs : 27 ≤ s) : jx_Sp (jx_wR h 26 0 v) s := H.rf rfl (fun b h1 h2 => wR_ne _ _ _ (by omega))
theorem jx_Sp.w51 {h : jx_H} {s k : Nat} {v : Option Nat} (H : jx_Sp h s) (hs : 52 ≤ s) : jx_Sp (jx_wR h 51 k v) s := H.rf rfl (fun b h1 h2 => wR_ne _ _ _ (by omega))
theorem La40 {h : jx_H} (H : jx_St h) : jx_La h 40 := ⟨sK40 H, ⟨sK41 H, sR40_0 H⟩, ⟨sK42 H, sR40_1 H⟩, ⟨sK43 H, sR40_2 H⟩, sK44 H, sR40_3 H⟩
set_option maxHeartbeats 2000000 in
theorem t_Wo_begin (d : Nat) {bc bs : Nat} {h : jx_H} {a : Nat} (H : jx_St h) (SP : jx_Sp h a) (ha : 304 ≤ a) : jx_Tr (d + 3) bc bs 7001 [.ref 26, .ref a] h (fun r h' => r = none ∧ fC (fun c => c = 26 ∨ 40 ≤ c ∧ c ≤ 44) (jx_wR h 26 0 (some a)) h' ∧ (∀ j, j ≠ 4 → j ≠ 10 → h'.2.1 26 j = h.2.1 26 j) ∧ h'.2.1 26 4 = 0 ∧ h'.2.1 26 10 = 0 ∧ ∀ L, rL h.2.1 (a + 8) L → rL h'.2.1 40 L) := by
  refine jx_tr jM_Wo_begin rfl rfl (lv := [some (.ref 26), some (.ref a)]) rfl ?_
  refine je_aload0 (pc := 0) d7001_0 rfl ?_
  refine je_aload1 (pc := 1) d7001_1 rfl ?_
  refine ju_putr (pc := 2) d7001_2 jF_7_12 rfl rfl (sK26 H) ?_
  have H1 : jx_St (jx_wR h 26 0 (some a)) := H.wR rfl
  have SP1 : jx_Sp (jx_wR h 26 0 (some a)) a := SP.w26 (a := a) (by omega)
  refine je_aload0 (pc := 5) d7001_5 rfl ?_
  refine ju_getr (pc := 6) (b := 40) d7001_6 jF_7_21 rfl (sK26 H1) (sR26_1 H1) ?_
  refine je_aload1 (pc := 9) d7001_9 rfl ?_
  refine ju_getr (pc := 10) (b := (a + 8)) d7001_10 jF_7_64 rfl SP1.1.1 SP1.1.2.2.2.2.2.2.2.2.2 ?_
  refine ju_callv (pc := 13) (as := [_]) d7001_13 jL_7_42 jM_La_copyFrom rfl (by decide) (sK40 H1) rfl (by exact Nat.le_of_ble_eq_true rfl) (t_La_copyFrom (d + 0) (a := 40) (b := a + 8) (La40 H1) SP1.2 (by omega)) (fun r13 h13 q13 => ?_)
  obtain ⟨rfl, f1, g1⟩ := q13
  refine je_aload0 (pc := 16) d7001_16 rfl ?_
  refine je_iconst (pc := 17) (v := 0) d7001_17 rfl ?_
  refine ju_puti (pc := 18) d7001_18 jF_7_49 rfl (sK26 (f1.St H1)) ?_
  refine je_aload0 (pc := 21) d7001_21 rfl ?_
  refine je_iconst (pc := 22) (v := 0) d7001_22 rfl ?_
  refine ju_puti (pc := 23) d7001_23 jF_7_61 rfl (sK26 (f1.St H1).wI) ?_
  refine je_ret (pc := 26) d7001_26 rfl ?_
  refine ⟨rfl, ((f1.mo (B := fun c => c = 26 ∨ 40 ≤ c ∧ c ≤ 44) (fun c z => Or.inr z)).wI (Or.inl rfl)).wI (Or.inl rfl), fun j j1 j2 => ?_, ?_, ?_, fun L hL => (g1 L hL).of (fun b b1 b2 => ?_)⟩
  · rw [wI_at, jx_up_ne _ _ j2, wI_at, jx_up_ne _ _ j1, f1.2 26 (by omega)]; rfl
  · rw [wI_at, jx_up_ne _ _ (by decide), wI_at, jx_up_self]
  · rw [wI_at, jx_up_self]
  · rw [wI_ne _ _ _ (by omega), wI_ne _ _ _ (by omega)]
theorem t_Db_renewLaw_x (d : Nat) {bc bs : Nat} {h : jx_H} {s nr : Nat} {ff : Int32} (H : jx_St h) (hr : h.2.2.2 26 0 = some s) (P : jx_Sp h s) (hf : h.2.1 26 2 = ff) (hn : h.2.1 1 4 = nI nr) (h2 : nr ≤ 6) (hx : ff = -1 ∨ ∃ f, f < nr ∧ ff = nI f) : jx_Tr (d + 2) bc bs 4 [.ref 1] h (fun r h' => r = none ∧ ∃ r0, h' = jx_wR (jx_wR h 51 0 (some s)) 51 1 r0 ∧ (ff = -1 → r0 = none) ∧ ∀ f : Nat, ff = nI f → f < 6 → r0 = some (125 + 6 * f)) := by
  rcases hx with rfl | ⟨f, hf1, rfl⟩
  · refine (t_Db_renewLaw_n d H hr P hf).mono (fun r h' e => ⟨e.1, none, e.2, fun _ => rfl, fun f e hf => ?_⟩)
    have e2 := congrArg Int32.toInt e
    rw [nI_toInt (by omega)] at e2
    have e3 : (-1 : Int32).toInt = -1 := rfl
    omega
  · refine (t_Db_renewLaw d H hr P (f := f) (nr := nr) hf hn hf1 h2).mono (fun r h' e => ⟨e.1, _, e.2, fun e => ?_, fun f' e hf' => ?_⟩)
    · have e2 := congrArg Int32.toInt e
      rw [nI_toInt (by omega)] at e2
      have e3 : (-1 : Int32).toInt = -1 := rfl
      omega
    · rw [(nI_eq (by omega) (by omega)).mp e]
/-- a heap behind a new strip: kinds, references, ints of the older cells -/
def nwF (R A : Nat → Prop) (a : Nat) (h h' : jx_H) : Prop := h'.1 = (nwS h a).1 ∧ (∀ b, b < a → ¬ R b → h'.2.2.2 b = h.2.2.2 b) ∧ ∀ b, b < a → ¬ A b → h'.2.1 b = h.2.1 b
set_option maxHeartbeats 4000000 in
theorem t_Db_strip_f (d : Nat) {h : jx_H} {N a : Nat} (H : jx_St h) (hs : h.2.1 2 1 = nI N) (hN : N ≤ 400) (hT : bytT (h.2.1 3) N) (hl : h.1.length = a) (ha : 304 ≤ a) (ha2 : a < 700000) (hc : ¬ (itS (h.2.1 3) N S00 41).2.1.1 = 0) : jx_Tr (d + 9) 13 206 3 [.ref 1] h (fun r h' => r = some (.int (-2 - (itS (h.2.1 3) N S00 41).2.1.1)) ∧ jx_St h' ∧ nwF (fun b => b = 4) (fun b => b = 2) a h h' ∧ h'.2.1 2 1 = 0) := by
  refine jx_tr jM_Db_strip rfl rfl (lv := [some (.ref 1), none]) rfl ?_
  refine je_aload0 (pc := 0) d3_0 rfl ?_
  refine ju_getr (pc := 1) (b := 4) d3_1 jF_0_21 rfl (sK1 H) (sR1_1 H) ?_
  refine ju_bud (bc' := 13 + 0) (bs' := 206 + 0) rfl rfl ?_
  refine je_callv (pc := 4) (as := []) (mc := 13) (ms := 206) d3_4 jL_0_92 jM_Sr_read rfl (by decide) (sK4 H) rfl (by exact Nat.le_of_ble_eq_true rfl) (t_Sr_read d (N := N) (a := a) H hs hN hT hl ha ha2) (fun r4 h4 q4 => ?_)
  obtain ⟨rfl, x1, x2, x3⟩ := q4
  have H4 : jx_St h4 := x1.St ((nw_St (a := a) H ha).wR rfl)
  have SP4 : jx_Sp h4 a := x1.Sp ((nw_Sp hl).w4 (by omega))
  have k4 : h4.1 = (nwS h a).1 := x1.1.1
  have i4 : ∀ b, b < a → b ≠ 2 → h4.2.1 b = h.2.1 b := fun b b1 b2 => (x1.2 b (by unfold stA; omega)).trans (nw_I (Or.inl b1))
  have j4 : ∀ b, b < a → b ≠ 4 → h4.2.2.2 b = h.2.2.2 b := fun b b1 b2 => by rw [x1.1.2, wR_ne _ _ _ b2]; exact nw_R b1
  refine ju_astore1 (pc := 7) (lv' := [some _, some _]) d3_7 rfl rfl ?_
  refine je_aload0 (pc := 8) d3_8 rfl ?_
  refine ju_getr (pc := 9) (b := 2) d3_9 jF_0_10 rfl (sK1 H4) (sR1_0 H4) ?_
  refine je_iconst (pc := 12) (v := 0) d3_12 rfl ?_
  refine ju_puti (pc := 13) d3_13 jF_0_84 rfl (sK2 H4) ?_
  have fl : (jx_wI h4 2 1 0).2.1 2 5 = (itS (h.2.1 3) N S00 41).2.1.1 := by rw [wI_at, jx_up_ne _ _ (by decide)]; exact x2.2.1
  refine je_aload0 (pc := 16) d3_16 rfl ?_
  refine ju_getr (pc := 17) (b := 2) d3_17 jF_0_10 rfl (sK1 H4.wI) (sR1_0 H4.wI) ?_
  refine ju_geti (pc := 20) d3_20 jF_0_96 rfl (sK2 H4.wI) ?_
  refine ju_eqi (v := (itS (h.2.1 3) N S00 41).2.1.1) fl ?_
  refine je_ifeq (pc := 23) 37 d3_23 (by decide) (fun c23 => absurd c23 hc) (fun c23 => ?_)
  refine je_bipush (pc := 26) (v := -2) d3_26 rfl ?_
  refine je_aload0 (pc := 28) d3_28 rfl ?_
  refine ju_getr (pc := 29) (b := 2) d3_29 jF_0_10 rfl (sK1 H4.wI) (sR1_0 H4.wI) ?_
  refine ju_geti (pc := 32) d3_32 jF_0_96 rfl (sK2 H4.wI) ?_
  refine ju_eqi (v := (itS (h.2.1 3) N S00 41).2.1.1) fl ?_
  refine je_isub (pc := 35) d3_35 ?_
  refine je_iret (pc := 36) d3_36 rfl ?_
  exact ⟨rfl, H4.wI, ⟨k4, j4, fun b b1 b2 => (wI_ne _ _ _ b2).trans (i4 b b1 b2)⟩, by rw [wI_at, jx_up_self]⟩
set_option maxHeartbeats 4000000 in
theorem t_Db_strip (d : Nat) {h : jx_H} {N a : Nat} (H : jx_St h) (hs : h.2.1 2 1 = nI N) (hN : N ≤ 400) (hT : bytT (h.2.1 3) N) (hl : h.1.length = a) (ha : 304 ≤ a) (ha2 : a < 700000) {nr : Nat} {ff : Int32} (hc : (itS (h.2.1 3) N S00 41).2.1.1 = 0) (hf : h.2.1 26 2 = ff) (hn : h.2.1 1 4 = nI nr) (h2 : nr ≤ 6) (hx : ff = -1 ∨ ∃ f, f < nr ∧ ff = nI f) : jx_Tr (d + 9) 13 206 3 [.ref 1] h (fun r h' => r = some (.int (nI (itS (h.2.1 3) N S00 41).2.2.1.2.1)) ∧ jx_St h' ∧ jx_Sp h' a ∧ nwF (fun b => b = 4 ∨ b = 26 ∨ b = 51) (fun b => b = 2 ∨ b = 26 ∨ 40 ≤ b ∧ b ≤ 44) a h h' ∧ h'.2.1 2 1 = 0 ∧ (∀ j, j ≠ 4 → j ≠ 10 → h'.2.1 26 j = h.2.1 26 j) ∧ h'.2.1 26 4 = 0 ∧ h'.2.1 26 10 = 0 ∧ rS h'.2.1 a (itS (h.2.1 3) N S00 41).2.2 ∧ rL h'.2.1 40 (itS (h.2.1 3) N S00 41).2.2.2.2 ∧ h'.2.2.2 26 0 = some a ∧ h'.2.2.2 51 0 = some a ∧ (ff = -1 → h'.2.2.2 51 1 = none) ∧ ∀ f : Nat, ff = nI f → f < 6 → h'.2.2.2 51 1 = some (125 + 6 * f)) := by
  refine jx_tr jM_Db_strip rfl rfl (lv := [some (.ref 1), none]) rfl ?_
  refine je_aload0 (pc := 0) d3_0 rfl ?_
  refine ju_getr (pc := 1) (b := 4) d3_1 jF_0_21 rfl (sK1 H) (sR1_1 H) ?_
  refine ju_bud (bc' := 13 + 0) (bs' := 206 + 0) rfl rfl ?_
  refine je_callv (pc := 4) (as := []) (mc := 13) (ms := 206) d3_4 jL_0_92 jM_Sr_read rfl (by decide) (sK4 H) rfl (by exact Nat.le_of_ble_eq_true rfl) (t_Sr_read d (N := N) (a := a) H hs hN hT hl ha ha2) (fun r4 h4 q4 => ?_)
  obtain ⟨rfl, x1, x2, x3⟩ := q4
  have H4 : jx_St h4 := x1.St ((nw_St (a := a) H ha).wR rfl)
  have SP4 : jx_Sp h4 a := x1.Sp ((nw_Sp hl).w4 (by omega))
  have k4 : h4.1 = (nwS h a).1 := x1.1.1
  have i4 : ∀ b, b < a → b ≠ 2 → h4.2.1 b = h.2.1 b := fun b b1 b2 => (x1.2 b (by unfold stA; omega)).trans (nw_I (Or.inl b1))
  have j4 : ∀ b, b < a → b ≠ 4 → h4.2.2.2 b = h.2.2.2 b := fun b b1 b2 => by rw [x1.1.2, wR_ne _ _ _ b2]; exact nw_R b1
  refine ju_astore1 (pc := 7) (lv' := [some _, some _]) d3_7 rfl rfl ?_
  refine je_aload0 (pc := 8) d3_8 rfl ?_
  refine ju_getr (pc := 9) (b := 2) d3_9 jF_0_10 rfl (sK1 H4) (sR1_0 H4) ?_
  refine je_iconst (pc := 12) (v := 0) d3_12 rfl ?_
  refine ju_puti (pc := 13) d3_13 jF_0_84 rfl (sK2 H4) ?_
  have fl : (jx_wI h4 2 1 0).2.1 2 5 = (itS (h.2.1 3) N S00 41).2.1.1 := by rw [wI_at, jx_up_ne _ _ (by decide)]; exact x2.2.1
  refine je_aload0 (pc := 16) d3_16 rfl ?_
  refine ju_getr (pc := 17) (b := 2) d3_17 jF_0_10 rfl (sK1 H4.wI) (sR1_0 H4.wI) ?_
  refine ju_geti (pc := 20) d3_20 jF_0_96 rfl (sK2 H4.wI) ?_
  refine ju_eqi (v := (itS (h.2.1 3) N S00 41).2.1.1) fl ?_
  refine je_ifeq (pc := 23) 37 d3_23 (by decide) (fun c23 => ?_) (fun c23 => absurd c23 (fun z => z hc))
  refine je_aload0 (pc := 37) d3_37 rfl ?_
  refine ju_getr (pc := 38) (b := 26) d3_38 jF_0_41 rfl (sK1 H4.wI) (sR1_5 H4.wI) ?_
  refine je_aload1 (pc := 41) d3_41 rfl ?_
  refine ju_callv (pc := 42) (as := [_]) d3_42 jL_0_99 jM_Wo_begin rfl (by decide) (sK26 H4.wI) rfl (by exact Nat.le_of_ble_eq_true rfl) (t_Wo_begin (d + 5) (a := a) H4.wI SP4.wI ha) (fun r42 h42 q42 => ?_)
  obtain ⟨rfl, f1, f2, f3, f4, f5⟩ := q42
  have H5 : jx_St h42 := f1.St (H4.wI.wR rfl)
  have SP5 : jx_Sp h42 a := f1.Sp (SP4.wI.w26 (a := a) (by omega))
  have r5 : h42.2.2.2 26 0 = some a := by rw [f1.1.2, wR_at, jx_up_self]
  have e26 : h42.2.1 26 2 = ff := (f2 2 (by decide) (by decide)).trans (by rw [wI_ne _ _ _ (by decide), i4 26 (by omega) (by decide)]; exact hf)
  have e1 : h42.2.1 1 4 = nI nr := by
      have z : h42.2.1 1 = h4.2.1 1 := (f1.2 1 (by omega)).trans (wI_ne h4 (a := 2) (b := 1) 1 0 (by decide))
      rw [z, i4 1 (by omega) (by decide)]; exact hn
  refine je_aload0 (pc := 45) d3_45 rfl ?_
  refine ju_callv (pc := 46) (as := []) d3_46 jL_0_103 jM_Db_renewLaw rfl (by decide) (sK1 H5) rfl (by exact Nat.le_of_ble_eq_true rfl) (t_Db_renewLaw_x (d + 6) (s := a) (nr := nr) (ff := ff) H5 r5 SP5 e26 e1 h2 hx) (fun r46 h46 q46 => ?_)
  obtain ⟨rfl, r0, g0, g1, g2⟩ := q46
  obtain rfl := g0.symm
  have R5 : rS h42.2.1 a (itS (h.2.1 3) N S00 41).2.2 := x3.of (fun b b1 b2 => (f1.2 b (by omega)).trans (wI_ne h4 (a := 2) (b := b) 1 0 (by omega)))
  refine je_aload1 (pc := 49) d3_49 rfl ?_
  refine ju_geti (pc := 50) d3_50 jF_0_106 rfl ((SP5.w51 (by omega)).w51 (by omega)).1.1 ?_
  refine ju_eqi (v := nI (itS (h.2.1 3) N S00 41).2.2.1.2.1) R5.1.2.2.1 ?_
  refine je_iret (pc := 53) d3_53 rfl ?_
  refine ⟨rfl, (H5.wR rfl).wR rfl, (SP5.w51 (by omega)).w51 (by omega), ⟨f1.1.1.trans k4, fun b b1 b2 => ?_, fun b b1 b2 => ?_⟩, ?_, fun j j1 j2 => ?_, f3, f4, R5, ?_, ?_, ?_, ?_, ?_⟩
  · rw [wR_ne _ _ _ (by omega), wR_ne _ _ _ (by omega), f1.1.2, wR_ne _ _ _ (by omega)]; exact j4 b b1 (by omega)
  · exact (f1.2 b (by omega)).trans ((wI_ne h4 (a := 2) (b := b) 1 0 (by omega)).trans (i4 b b1 (by omega)))
  · show h42.2.1 2 1 = 0
    rw [f1.2 2 (by omega)]
    exact (congrFun (wI_at h4 2 1 0) 1).trans (jx_up_self _ _ _)
  · exact (f2 j j1 j2).trans (by rw [wI_ne _ _ _ (by decide), i4 26 (by omega) (by decide)])
  · exact f5 _ (x3.2.2.2.2.2.of (fun b b1 b2 => wI_ne _ _ _ (by omega)))
  · rw [wR_ne _ _ _ (by decide), wR_ne _ _ _ (by decide)]; exact r5
  · rw [wR_at, jx_up_ne _ _ (by decide), wR_at, jx_up_self]
  · intro e; rw [wR_at, jx_up_self]; exact g1 e
  · intro f e hf; rw [wR_at, jx_up_self]; exact g2 f e hf
