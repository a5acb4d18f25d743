/-! a strip told: the model takes parts -/
/-- what the model has read of a strip -/
def mSn (I : Nat → Nat → Int32) (S : MS) : Prop := (I 270 0 = nI S.1.1 ∧ I 270 1 = S.1.2.2.2 ∧ I 270 2 = nI S.1.2.1 ∧ I 270 3 = nI S.1.2.2.1 ∧ I 270 4 = S.2.2.2.2.2.2.1) ∧ (∀ m, m < 10 → I 271 m = S.2.2.1 m ∧ I 272 m = S.2.2.2.1 m ∧ I 273 m = S.2.2.2.2.1 m) ∧ (∀ j, j < 100 → I 274 j = S.2.1.1 j) ∧ (∀ v, v < S.1.2.1 → I 275 v = S.2.1.2.1 v ∧ I 276 v = S.2.1.2.2.1 v ∧ I 277 v = S.2.1.2.2.2.1 v) ∧ ∀ v, v < S.1.2.2.1 → I 278 v = S.2.1.2.2.2.2.1 v ∧ I 279 v = S.2.1.2.2.2.2.2 v
def mnA (b : Nat) : Prop := b = 253 ∨ 270 ≤ b ∧ b ≤ 279
theorem fC.mn {h h' : jx_H} (f : fC (fun b => b = 253) h h') : fC mnA h h' := f.mo (fun b e => Or.inl e)
theorem mtS.wI {h : jx_H} {N a k : Nat} {v : Int32} {s : Int32 × Nat} (q : mtS h N s) (ha : 253 ≠ a) : mtS (jx_wI h a k v) N s := by
  unfold mtS at q ⊢
  rw [wI_ne _ _ _ ha]
  exact q
theorem mT_e {h h' : jx_H} (f : fC mnA h h') : mT h' = mT h := by
  unfold mT
  rw [f.2 280 (fun z => by unfold mnA at z; omega)]
theorem mSn.of {I I' : Nat → Nat → Int32} {S : MS} (R : mSn I S) (e : ∀ b, 270 ≤ b → b ≤ 279 → I' b = I b) : mSn I' S := by
  unfold mSn at R ⊢
  rw [e 270 (by omega) (by omega), e 271 (by omega) (by omega), e 272 (by omega) (by omega), e 273 (by omega) (by omega), e 274 (by omega) (by omega), e 275 (by omega) (by omega), e 276 (by omega) (by omega), e 277 (by omega) (by omega), e 278 (by omega) (by omega), e 279 (by omega) (by omega)]
  exact R
theorem sn_0 {I I' : Nat → Nat → Int32} {m : Nat} {dd : Int32} {S : MS} (R : mSn I S) (e : ∀ b, 271 ≤ b → b ≤ 279 → I' b = I b) (e0 : I' 270 = jx_up (jx_up (I 270) 0 (nI m)) 1 dd) : mSn I' ((m, S.1.2.1, S.1.2.2.1, dd), S.2) := by
  obtain ⟨⟨a0, a1, a2, a3, a4⟩, R⟩ := R
  unfold mSn
  rw [e0, e 271 (by omega) (by omega), e 272 (by omega) (by omega), e 273 (by omega) (by omega), e 274 (by omega) (by omega), e 275 (by omega) (by omega), e 276 (by omega) (by omega), e 277 (by omega) (by omega), e 278 (by omega) (by omega), e 279 (by omega) (by omega)]
  exact ⟨⟨(jx_up_ne _ _ (by decide)).trans (jx_up_self _ _ _), jx_up_self _ _ _, ((jx_up_ne _ _ (by decide)).trans (jx_up_ne _ _ (by decide))).trans a2, ((jx_up_ne _ _ (by decide)).trans (jx_up_ne _ _ (by decide))).trans a3, ((jx_up_ne _ _ (by decide)).trans (jx_up_ne _ _ (by decide))).trans a4⟩, R⟩
theorem sn_1 {I I' : Nat → Nat → Int32} {m : Nat} {x y z : Int32} {S : MS} (R : mSn I S) (e : ∀ b, 270 ≤ b → b ≤ 279 → b ≠ 271 → b ≠ 272 → b ≠ 273 → I' b = I b) (e1 : I' 271 = jx_up (I 271) m x) (e2 : I' 272 = jx_up (I 272) m y) (e3 : I' 273 = jx_up (I 273) m z) : mSn I' (S.1, S.2.1, (jx_up S.2.2.1 m x, jx_up S.2.2.2.1 m y, jx_up S.2.2.2.2.1 m z, S.2.2.2.2.2)) := by
  obtain ⟨R1, R2, R3⟩ := R
  unfold mSn
  rw [e1, e2, e3, e 270 (by omega) (by omega) (by omega) (by omega) (by omega), e 274 (by omega) (by omega) (by omega) (by omega) (by omega), e 275 (by omega) (by omega) (by omega) (by omega) (by omega), e 276 (by omega) (by omega) (by omega) (by omega) (by omega), e 277 (by omega) (by omega) (by omega) (by omega) (by omega), e 278 (by omega) (by omega) (by omega) (by omega) (by omega), e 279 (by omega) (by omega) (by omega) (by omega) (by omega)]
  exact ⟨R1, fun k hk => ⟨up_cg (R2 k hk).1, up_cg (R2 k hk).2.1, up_cg (R2 k hk).2.2⟩, R3⟩
theorem sn_2 {I I' : Nat → Nat → Int32} {g : Nat → Int32} {S : MS} (R : mSn I S) (e : ∀ b, 270 ≤ b → b ≤ 279 → b ≠ 274 → I' b = I b) (e1 : ∀ j, j < 100 → I' 274 j = g j) : mSn I' (S.1, (g, S.2.1.2), S.2.2) := by
  obtain ⟨R1, R2, R3, R4⟩ := R
  unfold mSn
  rw [e 270 (by omega) (by omega) (by omega), e 271 (by omega) (by omega) (by omega), e 272 (by omega) (by omega) (by omega), e 273 (by omega) (by omega) (by omega), e 275 (by omega) (by omega) (by omega), e 276 (by omega) (by omega) (by omega), e 277 (by omega) (by omega) (by omega), e 278 (by omega) (by omega) (by omega), e 279 (by omega) (by omega) (by omega)]
  exact ⟨R1, R2, e1, R4⟩
theorem sn_3 {I I' : Nat → Nat → Int32} {x : Int32} {S : MS} (R : mSn I S) (e : ∀ b, 271 ≤ b → b ≤ 279 → I' b = I b) (e0 : I' 270 = jx_up (I 270) 4 x) : mSn I' (S.1, S.2.1, (S.2.2.1, S.2.2.2.1, S.2.2.2.2.1, S.2.2.2.2.2.1, x, S.2.2.2.2.2.2.2)) := by
  obtain ⟨⟨a0, a1, a2, a3, a4⟩, R⟩ := R
  unfold mSn
  rw [e0, e 271 (by omega) (by omega), e 272 (by omega) (by omega), e 273 (by omega) (by omega), e 274 (by omega) (by omega), e 275 (by omega) (by omega), e 276 (by omega) (by omega), e 277 (by omega) (by omega), e 278 (by omega) (by omega), e 279 (by omega) (by omega)]
  exact ⟨⟨(jx_up_ne _ _ (by decide)).trans a0, (jx_up_ne _ _ (by decide)).trans a1, (jx_up_ne _ _ (by decide)).trans a2, (jx_up_ne _ _ (by decide)).trans a3, jx_up_self _ _ _⟩, R⟩
theorem sn_4 {I I' : Nat → Nat → Int32} {v : Nat} {x y z : Int32} {S : MS} (R : mSn I S) (hv : S.1.2.1 = v) (e : ∀ b, 271 ≤ b → b ≤ 279 → b ≠ 275 → b ≠ 276 → b ≠ 277 → I' b = I b) (e0 : I' 270 = jx_up (I 270) 2 (nI (v + 1))) (e1 : I' 275 = jx_up (I 275) v x) (e2 : I' 276 = jx_up (I 276) v y) (e3 : I' 277 = jx_up (I 277) v z) : mSn I' ((S.1.1, v + 1, S.1.2.2), (S.2.1.1, jx_up S.2.1.2.1 v x, jx_up S.2.1.2.2.1 v y, jx_up S.2.1.2.2.2.1 v z, S.2.1.2.2.2.2), S.2.2) := by
  obtain ⟨⟨a0, a1, a2, a3, a4⟩, R2, R3, R4, R5⟩ := R
  unfold mSn
  rw [e0, e1, e2, e3, e 271 (by omega) (by omega) (by omega) (by omega) (by omega), e 272 (by omega) (by omega) (by omega) (by omega) (by omega), e 273 (by omega) (by omega) (by omega) (by omega) (by omega), e 274 (by omega) (by omega) (by omega) (by omega) (by omega), e 278 (by omega) (by omega) (by omega) (by omega) (by omega), e 279 (by omega) (by omega) (by omega) (by omega) (by omega)]
  refine ⟨⟨(jx_up_ne _ _ (by decide)).trans a0, (jx_up_ne _ _ (by decide)).trans a1, jx_up_self _ _ _, (jx_up_ne _ _ (by decide)).trans a3, (jx_up_ne _ _ (by decide)).trans a4⟩, R2, R3, fun u hu => ?_, R5⟩
  have hu : u < v + 1 := hu
  by_cases z : u = v
  · rw [z, jx_up_self, jx_up_self, jx_up_self]
    exact ⟨(jx_up_self _ _ _).symm, (jx_up_self _ _ _).symm, (jx_up_self _ _ _).symm⟩
  · have := R4 u (by omega)
    exact ⟨up_cg this.1, up_cg this.2.1, up_cg this.2.2⟩
theorem sn_5 {I I' : Nat → Nat → Int32} {v : Nat} {x y : Int32} {S : MS} (R : mSn I S) (hv : S.1.2.2.1 = v) (e : ∀ b, 271 ≤ b → b ≤ 279 → b ≠ 278 → b ≠ 279 → I' b = I b) (e0 : I' 270 = jx_up (I 270) 3 (nI (v + 1))) (e1 : I' 278 = jx_up (I 278) v x) (e2 : I' 279 = jx_up (I 279) v y) : mSn I' ((S.1.1, S.1.2.1, v + 1, S.1.2.2.2), (S.2.1.1, S.2.1.2.1, S.2.1.2.2.1, S.2.1.2.2.2.1, jx_up S.2.1.2.2.2.2.1 v x, jx_up S.2.1.2.2.2.2.2 v y), S.2.2) := by
  obtain ⟨⟨a0, a1, a2, a3, a4⟩, R2, R3, R4, R5⟩ := R
  unfold mSn
  rw [e0, e1, e2, e 271 (by omega) (by omega) (by omega) (by omega), e 272 (by omega) (by omega) (by omega) (by omega), e 273 (by omega) (by omega) (by omega) (by omega), e 274 (by omega) (by omega) (by omega) (by omega), e 275 (by omega) (by omega) (by omega) (by omega), e 276 (by omega) (by omega) (by omega) (by omega), e 277 (by omega) (by omega) (by omega) (by omega)]
  refine ⟨⟨(jx_up_ne _ _ (by decide)).trans a0, (jx_up_ne _ _ (by decide)).trans a1, (jx_up_ne _ _ (by decide)).trans a2, jx_up_self _ _ _, (jx_up_ne _ _ (by decide)).trans a4⟩, R2, R3, R4, fun u hu => ?_⟩
  have hu : u < v + 1 := hu
  by_cases z : u = v
  · rw [z, jx_up_self, jx_up_self]
    exact ⟨(jx_up_self _ _ _).symm, (jx_up_self _ _ _).symm⟩
  · have := R5 u (by omega)
    exact ⟨up_cg this.1, up_cg this.2⟩
set_option maxHeartbeats 2000000 in
theorem t_Mo_oneMile (d : Nat) {bc bs : Nat} {h : jx_H} {N mi : Nat} {s : Int32 × Nat} (H : jx_St h) (q : mtS h N s) (hN : N ≤ 400) (hm : h.2.1 270 0 = nI mi) : jx_Tr (d + 5) bc bs 12020 [.ref 253] h (fun r h' => ∃ v, r = some (.int v) ∧ fC (fun b => b = 253) h h' ∧ (∀ j, j ≠ 28 → j ≠ 29 → h'.2.1 253 j = h.2.1 253 j) ∧ mtS h' N (amS (mT h) N 0 (hiN mi) s) ∧ ((amS (mT h) N 0 (hiN mi) s).1 = 0 → v = nI (amV (mT h) N s.2))) := by
  refine jx_tr jM_Mo_oneMile rfl rfl (lv := [some (.ref 253)]) rfl ?_
  refine je_aload0 (pc := 0) d12020_0 rfl ?_
  refine je_iconst (pc := 1) (v := 0) d12020_1 rfl ?_
  refine je_aload0 (pc := 2) d12020_2 rfl ?_
  refine ju_getr (pc := 3) (b := 270) d12020_3 jF_12_58 rfl (sK253 H) (sR253_17 H) ?_
  refine je_iconst (pc := 6) (v := 0) d12020_6 rfl ?_
  refine ju_iald (pc := 7) (jn := 0) d12020_7 (sK270 H) (by first | assumption | exact jx_ok_dec (by decide)) (by decide) ?_
  refine ju_eqi (v := nI mi) hm ?_
  refine je_iconst (pc := 8) (v := 1) d12020_8 rfl ?_
  refine je_isub (pc := 9) d12020_9 ?_
  refine ju_callv (pc := 10) (as := [_, _]) d12020_10 jL_12_320 jM_Mo_amount rfl (by decide) (sK253 H) rfl (by exact Nat.le_of_ble_eq_true rfl) (t_Mo_amount d (N := N) (s := s) 0 (hiN mi) H q hN) (fun r10 h10 q10 => ?_)
  obtain ⟨v, rfl, g⟩ := q10
  refine je_iret (pc := 13) d12020_13 rfl ?_
  exact ⟨v, rfl, g⟩
set_option maxHeartbeats 4000000 in
theorem t_Mo_readsMile (d : Nat) {bc bs : Nat} {h : jx_H} {N : Nat} {s : Int32 × Nat} {S : MS} (H : jx_St h) (q : mtS h N s) (hs : s.2 ≤ N) (hN : N ≤ 400) (R : mSn h.2.1 S) (W : S.1.1 ≤ 10 ∧ S.1.2.1 ≤ 8 ∧ S.1.2.2.1 ≤ 8) : jx_Tr (d + 6) bc bs 12019 [.ref 253] h (fun r h' => r = none ∧ fC mnA h h' ∧ (∀ j, j ≠ 28 → j ≠ 29 → h'.2.1 253 j = h.2.1 253 j) ∧ mtS h' N (ptS (mT h) N 1 s S).1 ∧ ((ptS (mT h) N 1 s S).1.1 = 0 → mSn h'.2.1 (ptS (mT h) N 1 s S).2)) := by
  refine jx_tr jM_Mo_readsMile rfl rfl (lv := [some (.ref 253), none, none, none, none]) rfl ?_
  refine je_aload0 (pc := 0) d12019_0 rfl ?_
  refine ju_callv (pc := 1) (as := []) d12019_1 jL_12_324 jM_Mo_oneMile rfl (by decide) (sK253 H) rfl (by exact Nat.le_of_ble_eq_true rfl) (t_Mo_oneMile (d + 0) (N := N) (mi := S.1.1) (s := s) H q hN R.1.1) (fun r1 h1 q1 => ?_)
  obtain ⟨v1, rfl, f1, g1, x1, y1⟩ := q1
  have F1 := f1.mn
  have G1 := g1
  have H1 := F1.St H
  refine ju_istore1 (pc := 4) (lv' := [some _, some _, none, none, none]) d12019_4 rfl rfl ?_
  refine je_aload0 (pc := 5) d12019_5 rfl ?_
  refine je_iconst (pc := 6) (v := 0) d12019_6 rfl ?_
  refine je_bipush (pc := 7) (v := 40) d12019_7 rfl ?_
  refine ju_callv (pc := 9) (as := [_, _]) d12019_9 jL_12_320 jM_Mo_amount rfl (by decide) (sK253 H1) rfl (by exact Nat.le_of_ble_eq_true rfl) (t_Mo_amount (d + 1) (N := N) (s := (p1a (mT h) N S.1.1 s)) 0 40 H1 x1 hN) (fun r9 h9 q9 => ?_)
  obtain ⟨v2, rfl, f2, g2, x2, y2⟩ := q9
  have F2 := F1.tr f2.mn
  have G2 : ∀ j, j ≠ 28 → j ≠ 29 → h9.2.1 253 j = h.2.1 253 j := fun j a1 a2 => (g2 j a1 a2).trans (by exact G1 j a1 a2)
  rw [mT_e F1] at x2 y2
  have H2 := F2.St H
  refine ju_istore2 (pc := 12) (lv' := [some _, some _, some _, none, none]) d12019_12 rfl rfl ?_
  refine je_aload0 (pc := 13) d12019_13 rfl ?_
  refine je_iconst (pc := 14) (v := 0) d12019_14 rfl ?_
  refine je_bipush (pc := 15) (v := 99) d12019_15 rfl ?_
  refine ju_callv (pc := 17) (as := [_, _]) d12019_17 jL_12_320 jM_Mo_amount rfl (by decide) (sK253 H2) rfl (by exact Nat.le_of_ble_eq_true rfl) (t_Mo_amount (d + 1) (N := N) (s := (p1b (mT h) N S.1.1 s)) 0 99 H2 x2 hN) (fun r17 h17 q17 => ?_)
  obtain ⟨v3, rfl, f3, g3, x3, y3⟩ := q17
  have F3 := F2.tr f3.mn
  have G3 : ∀ j, j ≠ 28 → j ≠ 29 → h17.2.1 253 j = h.2.1 253 j := fun j a1 a2 => (g3 j a1 a2).trans (by exact G2 j a1 a2)
  rw [mT_e F2] at x3 y3
  have H3 := F3.St H
  refine ju_istore3 (pc := 20) (lv' := [some _, some _, some _, some _, none]) d12019_20 rfl rfl ?_
  refine je_aload0 (pc := 21) d12019_21 rfl ?_
  refine je_iconst (pc := 22) (v := 0) d12019_22 rfl ?_
  refine je_bipush (pc := 23) (v := 9) d12019_23 rfl ?_
  refine ju_callv (pc := 25) (as := [_, _]) d12019_25 jL_12_320 jM_Mo_amount rfl (by decide) (sK253 H3) rfl (by exact Nat.le_of_ble_eq_true rfl) (t_Mo_amount (d + 1) (N := N) (s := (p1c (mT h) N S.1.1 s)) 0 9 H3 x3 hN) (fun r25 h25 q25 => ?_)
  obtain ⟨v4, rfl, f4, g4, x4, y4⟩ := q25
  have F4 := F3.tr f4.mn
  have G4 : ∀ j, j ≠ 28 → j ≠ 29 → h25.2.1 253 j = h.2.1 253 j := fun j a1 a2 => (g4 j a1 a2).trans (by exact G3 j a1 a2)
  rw [mT_e F3] at x4 y4
  have H4 := F4.St H
  refine ju_istore (pc := 28) (lv' := [some _, some _, some _, some _, some _]) d12019_28 rfl rfl ?_
  refine je_aload0 (pc := 30) d12019_30 rfl ?_
  refine ju_geti (pc := 31) d12019_31 jF_12_214 rfl (sK253 H4) ?_
  refine ju_eqi (v := (p1A (mT h) N S.1.1 s).1) x4.2.1 ?_
  refine je_ifne (pc := 34) 62 d12019_34 (by decide) (fun c34 => ?_) (fun c34 => ?_)
  · refine je_ret (pc := 62) d12019_62 rfl ?_
    have e1 : (ptS (mT h) N 1 s S).1 = (p1A (mT h) N S.1.1 s) := rfl
    rw [e1]
    exact ⟨rfl, F4, G4, x4, fun z => absurd z c34⟩
  · have b1 : ((p1a (mT h) N S.1.1 s)).2 ≤ N := am_N hs hN
    have b2 : ((p1b (mT h) N S.1.1 s)).2 ≤ N := am_N b1 hN
    have b3 : ((p1c (mT h) N S.1.1 s)).2 ≤ N := am_N b2 hN
    have k3 := am_ok c34 b3 hN
    have k2 := am_ok k3.1 b2 hN
    have k1 := am_ok k2.1 b1 hN
    have k0 := am_ok k1.1 hs hN
    obtain rfl := y1 k1.1
    obtain rfl := y2 k2.1
    obtain rfl := y3 k3.1
    obtain rfl := y4 c34
    have FQ4 := ((f1.tr f2).tr f3).tr f4
    have hm := am_hi k1.1 hs hN (by omega)
    refine je_aload0 (pc := 37) d12019_37 rfl ?_
    refine ju_getr (pc := 38) (b := 271) d12019_38 jF_12_61 rfl (sK253 H4) (sR253_18 H4) ?_
    refine je_iload1 (pc := 41) d12019_41 rfl ?_
    refine je_iload2 (pc := 42) d12019_42 rfl ?_
    refine je_bipush (pc := 43) (v := 20) d12019_43 rfl ?_
    refine je_isub (pc := 45) d12019_45 ?_
    refine ju_iast (pc := 46) (jn := (amV (mT h) N s.2)) d12019_46 (sK271 H4) (vp_in_nI (by omega) (by decide)) (nI_clamp (by omega)) ?_
    refine je_aload0 (pc := 47) d12019_47 rfl ?_
    refine ju_getr (pc := 48) (b := 272) d12019_48 jF_12_64 rfl (sK253 H4.wI) (sR253_19 H4.wI) ?_
    refine je_iload1 (pc := 51) d12019_51 rfl ?_
    refine je_iload3 (pc := 52) d12019_52 rfl ?_
    refine ju_iast (pc := 53) (jn := (amV (mT h) N s.2)) d12019_53 (sK272 H4.wI) (vp_in_nI (by omega) (by decide)) (nI_clamp (by omega)) ?_
    refine je_aload0 (pc := 54) d12019_54 rfl ?_
    refine ju_getr (pc := 55) (b := 273) d12019_55 jF_12_67 rfl (sK253 H4.wI.wI) (sR253_20 H4.wI.wI) ?_
    refine je_iload1 (pc := 58) d12019_58 rfl ?_
    refine je_iload (pc := 59) d12019_59 rfl ?_
    refine ju_iast (pc := 61) (jn := (amV (mT h) N s.2)) d12019_61 (sK273 H4.wI.wI) (vp_in_nI (by omega) (by decide)) (nI_clamp (by omega)) ?_
    refine je_ret (pc := 62) d12019_62 rfl ?_
    rw [pt1_o c34]
    exact ⟨rfl, ((F4.wI (Or.inr (by decide))).wI (Or.inr (by decide))).wI (Or.inr (by decide)), (fun j a1 a2 => by rw [wI_ne _ _ _ (by decide), wI_ne _ _ _ (by decide), wI_ne _ _ _ (by decide)]; exact G4 j a1 a2), ((x4.wI (by decide)).wI (by decide)).wI (by decide), fun _ => sn_1 R (fun b b1 b2 b3 b4 b5 => by rw [wI_ne _ _ _ b5, wI_ne _ _ _ b4, wI_ne _ _ _ b3, FQ4.2 b (by omega)]) (by rw [wI_ne _ _ _ (by decide), wI_ne _ _ _ (by decide), wI_at, FQ4.2 271 (by decide)]) (by rw [wI_ne _ _ _ (by decide), wI_at, wI_ne _ _ _ (by decide), FQ4.2 272 (by decide)]) (by rw [wI_at, wI_ne _ _ _ (by decide), wI_ne _ _ _ (by decide), FQ4.2 273 (by decide)])⟩
set_option maxHeartbeats 4000000 in
theorem t_Mo_readsWarm (d : Nat) {bc bs : Nat} {h : jx_H} {N : Nat} {s : Int32 × Nat} {S : MS} (H : jx_St h) (q : mtS h N s) (hs : s.2 ≤ N) (hN : N ≤ 400) (R : mSn h.2.1 S) (W : S.1.1 ≤ 10 ∧ S.1.2.1 ≤ 8 ∧ S.1.2.2.1 ≤ 8) : jx_Tr (d + 6) bc bs 12021 [.ref 253] h (fun r h' => r = none ∧ fC mnA h h' ∧ (∀ j, j ≠ 28 → j ≠ 29 → h'.2.1 253 j = h.2.1 253 j) ∧ mtS h' N (ptS (mT h) N 2 s S).1 ∧ ((ptS (mT h) N 2 s S).1.1 = 0 → mSn h'.2.1 (ptS (mT h) N 2 s S).2)) := by
  refine jx_tr jM_Mo_readsWarm rfl rfl (lv := [some (.ref 253), none, none, none, none]) rfl ?_
  refine je_aload0 (pc := 0) d12021_0 rfl ?_
  refine je_iconst (pc := 1) (v := 0) d12021_1 rfl ?_
  refine je_bipush (pc := 2) (v := 99) d12021_2 rfl ?_
  refine ju_callv (pc := 4) (as := [_, _]) d12021_4 jL_12_320 jM_Mo_amount rfl (by decide) (sK253 H) rfl (by exact Nat.le_of_ble_eq_true rfl) (t_Mo_amount (d + 1) (N := N) (s := s) 0 99 H q hN) (fun r4 h4 q4 => ?_)
  obtain ⟨v1, rfl, f1, g1, x1, y1⟩ := q4
  have F1 := f1.mn
  have G1 := g1
  have H1 := F1.St H
  refine ju_istore1 (pc := 7) (lv' := [some _, some _, none, none, none]) d12021_7 rfl rfl ?_
  refine je_aload0 (pc := 8) d12021_8 rfl ?_
  refine je_iload1 (pc := 9) d12021_9 rfl ?_
  refine je_bipush (pc := 10) (v := 99) d12021_10 rfl ?_
  refine ju_callv (pc := 12) (as := [_, _]) d12021_12 jL_12_320 jM_Mo_amount rfl (by decide) (sK253 H1) rfl (by exact Nat.le_of_ble_eq_true rfl) (t_Mo_amount (d + 1) (N := N) (s := (p2a (mT h) N s)) _ 99 H1 x1 hN) (fun r12 h12 q12 => ?_)
  obtain ⟨v2, rfl, f2, g2, x2, y2⟩ := q12
  have F2 := F1.tr f2.mn
  have G2 : ∀ j, j ≠ 28 → j ≠ 29 → h12.2.1 253 j = h.2.1 253 j := fun j a1 a2 => (g2 j a1 a2).trans (by exact G1 j a1 a2)
  rw [mT_e F1] at x2 y2
  rw [am_lo (lo' := nI (amV (mT h) N s.2)) (s := (p2a (mT h) N s)) (fun z => y1 z)] at x2 y2
  have H2 := F2.St H
  refine ju_istore2 (pc := 15) (lv' := [some _, some _, some _, none, none]) d12021_15 rfl rfl ?_
  refine je_aload0 (pc := 16) d12021_16 rfl ?_
  refine je_iconst (pc := 17) (v := 1) d12021_17 rfl ?_
  refine je_bipush (pc := 18) (v := 9) d12021_18 rfl ?_
  refine ju_callv (pc := 20) (as := [_, _]) d12021_20 jL_12_320 jM_Mo_amount rfl (by decide) (sK253 H2) rfl (by exact Nat.le_of_ble_eq_true rfl) (t_Mo_amount (d + 1) (N := N) (s := (p2b (mT h) N s)) 1 9 H2 x2 hN) (fun r20 h20 q20 => ?_)
  obtain ⟨v3, rfl, f3, g3, x3, y3⟩ := q20
  have F3 := F2.tr f3.mn
  have G3 : ∀ j, j ≠ 28 → j ≠ 29 → h20.2.1 253 j = h.2.1 253 j := fun j a1 a2 => (g3 j a1 a2).trans (by exact G2 j a1 a2)
  rw [mT_e F2] at x3 y3
  have H3 := F3.St H
  refine ju_istore3 (pc := 23) (lv' := [some _, some _, some _, some _, none]) d12021_23 rfl rfl ?_
  refine je_iload1 (pc := 24) d12021_24 rfl ?_
  refine ju_istore (pc := 25) (lv' := [some _, some _, some _, some _, some _]) d12021_25 rfl rfl ?_
  by_cases c : ¬ (p2A (mT h) N s).1 = 0
  · skip
    refine je_iload (pc := 27) d12021_27 rfl ?_
    refine je_iload2 (pc := 29) d12021_29 rfl ?_
    refine je_icgt (pc := 30) 54 d12021_30 (by decide) (fun c30 => ?_) (fun c30 => ?_)
    · refine je_ret (pc := 54) d12021_54 rfl ?_
      have e1 : (ptS (mT h) N 2 s S).1 = (p2A (mT h) N s) := rfl
      rw [e1]
      exact ⟨rfl, F3, G3, x3, fun z => absurd z c⟩
    · refine je_aload0 (pc := 33) d12021_33 rfl ?_
      refine ju_geti (pc := 34) d12021_34 jF_12_214 rfl (sK253 H3) ?_
      refine ju_eqi (v := (p2A (mT h) N s).1) x3.2.1 ?_
      refine je_ifne (pc := 37) 54 d12021_37 (by decide) (fun c37 => ?_) (fun c37 => absurd c37 c)
      refine je_ret (pc := 54) d12021_54 rfl ?_
      have e1 : (ptS (mT h) N 2 s S).1 = (p2A (mT h) N s) := rfl
      rw [e1]
      exact ⟨rfl, F3, G3, x3, fun z => absurd z c⟩
  have c := Decidable.of_not_not c
  have FQ3 := (f1.tr f2).tr f3
  have b1 : ((p2a (mT h) N s)).2 ≤ N := am_N hs hN
  have b2 : ((p2b (mT h) N s)).2 ≤ N := am_N b1 hN
  have k2 := am_ok c b2 hN
  have k1 := am_ok k2.1 b1 hN
  have k0 := am_ok k1.1 hs hN
  obtain rfl := y1 k1.1
  obtain rfl := y2 k2.1
  obtain rfl := y3 c
  have g0 := am_rg (lo := 0) (hi := 99) k1.1 hs hN (by decide) (by decide)
  have g1 := am_rg (lo := amV (mT h) N s.2) (hi := 99) k2.1 b1 hN k0.2.1 (by decide)
  refine je_loop (σ := Unit) ((amV (mT h) N (p2a (mT h) N s).2) + 1 - (amV (mT h) N s.2)) (fun k xx => [some (.ref 253), some (.int (nI (amV (mT h) N s.2))), some (.int (nI (amV (mT h) N (p2a (mT h) N s).2))), some (.int (nI (amV (mT h) N (p2b (mT h) N s).2))), some (.int (nI ((amV (mT h) N s.2) + k)))]) (fun k _ h' => fC (fun b => b = 274) h20 h' ∧ ∀ j, h'.2.1 274 j = if amV (mT h) N s.2 ≤ j ∧ j < amV (mT h) N s.2 + k then nI (amV (mT h) N (p2b (mT h) N s).2) else h.2.1 274 j) (fun k xx h' hk e kk => ?_) (fun xx h' e => ?_) (0) () _ (by omega) ⟨fC.rf, fun j => by rw [if_neg (by omega), FQ3.2 274 (by decide)]⟩
  · obtain ⟨e1, e2⟩ := e
    have HJ := e1.St H3
    have fl : h'.2.1 253 29 = 0 := by rw [e1.2 253 (by decide)]; exact x3.2.1.trans c
    refine je_iload (pc := 27) d12021_27 rfl ?_
    refine je_iload2 (pc := 29) d12021_29 rfl ?_
    refine jn_icgt (pc := 30) (a := ((amV (mT h) N s.2) + k)) (b := (amV (mT h) N (p2a (mT h) N s).2)) 54 d12021_30 (by decide) (by omega) (by omega) (fun c30 => by exfalso; omega) (fun c30 => ?_)
    refine je_aload0 (pc := 33) d12021_33 rfl ?_
    refine ju_geti (pc := 34) d12021_34 jF_12_214 rfl (sK253 HJ) ?_
    refine ju_eqi (v := 0) fl ?_
    refine je_ifne (pc := 37) 54 d12021_37 (by decide) (fun c37 => absurd c37 (fun z => z rfl)) (fun c37 => ?_)
    refine je_aload0 (pc := 40) d12021_40 rfl ?_
    refine ju_getr (pc := 41) (b := 274) d12021_41 jF_12_70 rfl (sK253 HJ) (sR253_21 HJ) ?_
    refine je_iload (pc := 44) d12021_44 rfl ?_
    refine je_iload3 (pc := 46) d12021_46 rfl ?_
    refine ju_iast (pc := 47) (jn := ((amV (mT h) N s.2) + k)) d12021_47 (sK274 HJ) (vp_in_nI (by omega) (by decide)) (nI_clamp (by omega)) ?_
    refine ju_incN (pc := 48) (v := nI (((amV (mT h) N s.2) + k) + 1)) (lv' := [some _, some _, some _, some _, some _]) d12021_48 rfl (nI_1 ((amV (mT h) N s.2) + k)) rfl ?_
    refine je_goto (pc := 51) 27 d12021_51 (by decide) ?_
    refine kk () _ ⟨e1.wI rfl, fun j => ?_⟩
    rw [wI_at]
    by_cases z : j = (amV (mT h) N s.2) + k
    · rw [z, jx_up_self, if_pos (by omega)]
    · rw [jx_up_ne _ _ z, e2 j]
      by_cases y : (amV (mT h) N s.2) ≤ j ∧ j < (amV (mT h) N s.2) + k
      · rw [if_pos y, if_pos (by omega)]
      · rw [if_neg y, if_neg (by omega)]
  · obtain ⟨e1, e2⟩ := e
    have HJ := e1.St H3
    have fl : h'.2.1 253 29 = 0 := by rw [e1.2 253 (by decide)]; exact x3.2.1.trans c
    refine je_iload (pc := 27) d12021_27 rfl ?_
    refine je_iload2 (pc := 29) d12021_29 rfl ?_
    refine jn_icgt (pc := 30) (a := ((amV (mT h) N s.2) + ((amV (mT h) N (p2a (mT h) N s).2) + 1 - (amV (mT h) N s.2)))) (b := (amV (mT h) N (p2a (mT h) N s).2)) 54 d12021_30 (by decide) (by omega) (by omega) (fun c30 => ?_) (fun c30 => by exfalso; omega)
    refine je_ret (pc := 54) d12021_54 rfl ?_
    rw [pt2_o c]
    exact ⟨rfl, F3.tr (e1.mo (fun b z => Or.inr (by omega))), (fun j a1 a2 => by rw [e1.2 253 (by decide)]; exact G3 j a1 a2), ⟨by rw [e1.2 253 (by decide)]; exact x3.1, by rw [e1.2 253 (by decide)]; exact x3.2.1, by rw [e1.2 253 (by decide)]; exact x3.2.2⟩, fun _ => sn_2 R (fun b b1 b2 b3 => (e1.2 b b3).trans (FQ3.2 b (by omega))) (fun j hj => by
      rw [e2 j]
      by_cases y : (amV (mT h) N s.2) ≤ j ∧ j ≤ (amV (mT h) N (p2a (mT h) N s).2)
      · rw [if_pos y, if_pos (by omega)]
      · rw [if_neg y, if_neg (by omega)]; exact R.2.2.1 j hj)⟩
set_option maxHeartbeats 4000000 in
theorem t_Mo_readsVillage (d : Nat) {bc bs : Nat} {h : jx_H} {N : Nat} {s : Int32 × Nat} {S : MS} (H : jx_St h) (q : mtS h N s) (hs : s.2 ≤ N) (hN : N ≤ 400) (R : mSn h.2.1 S) (W : S.1.1 ≤ 10 ∧ S.1.2.1 ≤ 8 ∧ S.1.2.2.1 ≤ 8) (V8 : S.1.2.1 < 8) : jx_Tr (d + 6) bc bs 12022 [.ref 253] h (fun r h' => r = none ∧ fC mnA h h' ∧ (∀ j, j ≠ 28 → j ≠ 29 → h'.2.1 253 j = h.2.1 253 j) ∧ mtS h' N (ptS (mT h) N 4 s S).1 ∧ ((ptS (mT h) N 4 s S).1.1 = 0 → mSn h'.2.1 (ptS (mT h) N 4 s S).2)) := by
  refine jx_tr jM_Mo_readsVillage rfl rfl (lv := [some (.ref 253), none]) rfl ?_
  refine je_aload0 (pc := 0) d12022_0 rfl ?_
  refine ju_getr (pc := 1) (b := 270) d12022_1 jF_12_58 rfl (sK253 H) (sR253_17 H) ?_
  refine je_iconst (pc := 4) (v := 2) d12022_4 rfl ?_
  refine ju_iald (pc := 5) (jn := 2) d12022_5 (sK270 H) (by first | assumption | exact jx_ok_dec (by decide)) (by decide) ?_
  refine ju_eqi (v := nI S.1.2.1) R.1.2.2.1 ?_
  refine ju_istore1 (pc := 6) (lv' := [some _, some _]) d12022_6 rfl rfl ?_
  refine je_aload0 (pc := 7) d12022_7 rfl ?_
  refine ju_getr (pc := 8) (b := 275) d12022_8 jF_12_73 rfl (sK253 H) (sR253_22 H) ?_
  refine je_iload1 (pc := 11) d12022_11 rfl ?_
  refine je_aload0 (pc := 12) d12022_12 rfl ?_
  refine ju_callv (pc := 13) (as := []) d12022_13 jL_12_324 jM_Mo_oneMile rfl (by decide) (sK253 H) rfl (by exact Nat.le_of_ble_eq_true rfl) (t_Mo_oneMile (d + 0) (N := N) (mi := S.1.1) (s := s) H q hN R.1.1) (fun r13 h13 q13 => ?_)
  obtain ⟨v1, rfl, f1, g1, x1, y1⟩ := q13
  have F1 := f1.mn
  have G1 := g1
  have H1 := F1.St H
  refine ju_iast (pc := 16) (jn := (S.1.2.1)) d12022_16 (sK275 H1) (vp_in_nI (by omega) (by decide)) (nI_clamp (by omega)) ?_
  refine je_aload0 (pc := 17) d12022_17 rfl ?_
  refine ju_getr (pc := 18) (b := 276) d12022_18 jF_12_76 rfl (sK253 H1.wI) (sR253_23 H1.wI) ?_
  refine je_iload1 (pc := 21) d12022_21 rfl ?_
  refine je_aload0 (pc := 22) d12022_22 rfl ?_
  refine je_iconst (pc := 23) (v := 0) d12022_23 rfl ?_
  refine je_bipush (pc := 24) (v := 40) d12022_24 rfl ?_
  refine ju_callv (pc := 26) (as := [_, _]) d12022_26 jL_12_320 jM_Mo_amount rfl (by decide) (sK253 H1.wI) rfl (by exact Nat.le_of_ble_eq_true rfl) (t_Mo_amount (d + 1) (N := N) (s := (p1a (mT h) N S.1.1 s)) 0 40 H1.wI (x1.wI (by decide)) hN) (fun r26 h26 q26 => ?_)
  obtain ⟨v2, rfl, f2, g2, x2, y2⟩ := q26
  have F2 := (F1.wI (Or.inr (by decide))).tr f2.mn
  have G2 : ∀ j, j ≠ 28 → j ≠ 29 → h26.2.1 253 j = h.2.1 253 j := fun j a1 a2 => (g2 j a1 a2).trans (by rw [wI_ne _ _ _ (by decide)]; exact G1 j a1 a2)
  rw [show ∀ k v, mT (jx_wI h13 275 k v) = mT h from fun k v => (mT_e (F1.wI (Or.inr (by decide))))] at x2 y2
  have H2 := F2.St H
  refine je_bipush (pc := 29) (v := 20) d12022_29 rfl ?_
  refine je_isub (pc := 31) d12022_31 ?_
  refine ju_iast (pc := 32) (jn := (S.1.2.1)) d12022_32 (sK276 H2) (vp_in_nI (by omega) (by decide)) (nI_clamp (by omega)) ?_
  refine je_aload0 (pc := 33) d12022_33 rfl ?_
  refine ju_getr (pc := 34) (b := 277) d12022_34 jF_12_79 rfl (sK253 H2.wI) (sR253_24 H2.wI) ?_
  refine je_iload1 (pc := 37) d12022_37 rfl ?_
  refine je_aload0 (pc := 38) d12022_38 rfl ?_
  refine je_iconst (pc := 39) (v := 0) d12022_39 rfl ?_
  refine je_iconst (pc := 40) (v := 1) d12022_40 rfl ?_
  refine ju_callv (pc := 41) (as := [_, _]) d12022_41 jL_12_320 jM_Mo_amount rfl (by decide) (sK253 H2.wI) rfl (by exact Nat.le_of_ble_eq_true rfl) (t_Mo_amount (d + 1) (N := N) (s := (p1b (mT h) N S.1.1 s)) 0 1 H2.wI (x2.wI (by decide)) hN) (fun r41 h41 q41 => ?_)
  obtain ⟨v3, rfl, f3, g3, x3, y3⟩ := q41
  have F3 := (F2.wI (Or.inr (by decide))).tr f3.mn
  have G3 : ∀ j, j ≠ 28 → j ≠ 29 → h41.2.1 253 j = h.2.1 253 j := fun j a1 a2 => (g3 j a1 a2).trans (by rw [wI_ne _ _ _ (by decide)]; exact G2 j a1 a2)
  rw [show ∀ k v, mT (jx_wI h26 276 k v) = mT h from fun k v => (mT_e (F2.wI (Or.inr (by decide))))] at x3 y3
  have H3 := F3.St H
  refine ju_iast (pc := 44) (jn := (S.1.2.1)) d12022_44 (sK277 H3) (vp_in_nI (by omega) (by decide)) (nI_clamp (by omega)) ?_
  refine je_aload0 (pc := 45) d12022_45 rfl ?_
  refine ju_getr (pc := 46) (b := 270) d12022_46 jF_12_58 rfl (sK253 H3.wI) (sR253_17 H3.wI) ?_
  refine je_iconst (pc := 49) (v := 2) d12022_49 rfl ?_
  refine je_dup2 (pc := 50) d12022_50 rfl rfl ?_
  refine ju_iald (pc := 51) (jn := 2) d12022_51 (sK270 H3.wI) (by first | assumption | exact jx_ok_dec (by decide)) (by decide) ?_
  refine ju_eqi (v := nI S.1.2.1) (by rw [wI_ne _ _ _ (by decide), f3.2 270 (by decide), wI_ne _ _ _ (by decide), f2.2 270 (by decide), wI_ne _ _ _ (by decide), f1.2 270 (by decide)]; exact R.1.2.2.1) ?_
  refine je_iconst (pc := 52) (v := 1) d12022_52 rfl ?_
  refine je_iadd (pc := 53) d12022_53 ?_
  refine ju_eqi (v := nI ((S.1.2.1) + 1)) (nI_add (S.1.2.1) 1) ?_
  refine ju_iast (pc := 54) (jn := 2) d12022_54 (sK270 H3.wI) (by first | assumption | exact jx_ok_dec (by decide)) (by decide) ?_
  refine je_ret (pc := 55) d12022_55 rfl ?_
  have e1 : (ptS (mT h) N 4 s S).1 = (p4A (mT h) N S.1.1 s) := rfl
  refine ⟨rfl, ((F3.wI (Or.inr (by decide))).wI (Or.inr (by decide))), (fun j a1 a2 => by rw [wI_ne _ _ _ (by decide), wI_ne _ _ _ (by decide)]; exact G3 j a1 a2), ?_, fun c => ?_⟩
  · rw [e1]; exact (x3.wI (by decide)).wI (by decide)
  · rw [e1] at c
    rw [pt4_o c]
    have b1 : ((p1a (mT h) N S.1.1 s)).2 ≤ N := am_N hs hN
    have b2 : ((p1b (mT h) N S.1.1 s)).2 ≤ N := am_N b1 hN
    have k2 := am_ok c b2 hN
    have k1 := am_ok k2.1 b1 hN
    have k0 := am_ok k1.1 hs hN
    obtain rfl := y1 k1.1
    obtain rfl := y2 k2.1
    obtain rfl := y3 c
    exact sn_4 R rfl (fun b b1 b2 b3 b4 b5 => by rw [wI_ne _ _ _ (by omega), wI_ne _ _ _ b5, f3.2 b (by omega), wI_ne _ _ _ b4, f2.2 b (by omega), wI_ne _ _ _ b3, f1.2 b (by omega)]) (by rw [wI_at, wI_ne _ _ _ (by decide), f3.2 270 (by decide), wI_ne _ _ _ (by decide), f2.2 270 (by decide), wI_ne _ _ _ (by decide), f1.2 270 (by decide)]) (by rw [wI_ne _ _ _ (by decide), wI_ne _ _ _ (by decide), f3.2 275 (by decide), wI_ne _ _ _ (by decide), f2.2 275 (by decide), wI_at, f1.2 275 (by decide)]) (by rw [wI_ne _ _ _ (by decide), wI_ne _ _ _ (by decide), f3.2 276 (by decide), wI_at, f2.2 276 (by decide), wI_ne _ _ _ (by decide), f1.2 276 (by decide)]) (by rw [wI_ne _ _ _ (by decide), wI_at, f3.2 277 (by decide), wI_ne _ _ _ (by decide), f2.2 277 (by decide), wI_ne _ _ _ (by decide), f1.2 277 (by decide)])
set_option maxHeartbeats 4000000 in
theorem t_Mo_stripPart_1 (d : Nat) {bc bs : Nat} {h : jx_H} {N : Nat} {s : Int32 × Nat} {S : MS} (H : jx_St h) (q : mtS h N s) (hs : s.2 ≤ N) (hN : N ≤ 400) (R : mSn h.2.1 S) (W : S.1.1 ≤ 10 ∧ S.1.2.1 ≤ 8 ∧ S.1.2.2.1 ≤ 8) : jx_Tr (d + 7) bc bs 12014 [.ref 253, .int (nI 1)] h (fun r h' => r = none ∧ fC mnA h h' ∧ (∀ j, j ≠ 28 → j ≠ 29 → h'.2.1 253 j = h.2.1 253 j) ∧ mtS h' N (ptS (mT h) N 1 s S).1 ∧ ((ptS (mT h) N 1 s S).1.1 = 0 → mSn h'.2.1 (ptS (mT h) N 1 s S).2)) := by
  refine jx_tr jM_Mo_stripPart rfl rfl (lv := [some (.ref 253), some (.int (nI 1)), none]) rfl ?_
  refine je_iload1 (pc := 0) d12014_0 rfl ?_
  refine je_table (pc := 1) 64 d12014_1 (by decide) (by decide) (off := 63) rfl (by decide) ?_
  refine je_aload0 (pc := 64) d12014_64 rfl ?_
  refine ju_callv (pc := 65) (as := []) d12014_65 jL_12_327 jM_Mo_readsMile rfl (by decide) (sK253 H) rfl (by exact Nat.le_of_ble_eq_true rfl) (t_Mo_readsMile d H q hs hN R W) (fun r65 h65 q65 => ?_)
  obtain ⟨rfl, g⟩ := q65
  refine je_goto (pc := 68) 164 d12014_68 (by decide) ?_
  refine je_ret (pc := 164) d12014_164 rfl ?_
  exact ⟨rfl, g⟩
set_option maxHeartbeats 4000000 in
theorem t_Mo_stripPart_2 (d : Nat) {bc bs : Nat} {h : jx_H} {N : Nat} {s : Int32 × Nat} {S : MS} (H : jx_St h) (q : mtS h N s) (hs : s.2 ≤ N) (hN : N ≤ 400) (R : mSn h.2.1 S) (W : S.1.1 ≤ 10 ∧ S.1.2.1 ≤ 8 ∧ S.1.2.2.1 ≤ 8) : jx_Tr (d + 7) bc bs 12014 [.ref 253, .int (nI 2)] h (fun r h' => r = none ∧ fC mnA h h' ∧ (∀ j, j ≠ 28 → j ≠ 29 → h'.2.1 253 j = h.2.1 253 j) ∧ mtS h' N (ptS (mT h) N 2 s S).1 ∧ ((ptS (mT h) N 2 s S).1.1 = 0 → mSn h'.2.1 (ptS (mT h) N 2 s S).2)) := by
  refine jx_tr jM_Mo_stripPart rfl rfl (lv := [some (.ref 253), some (.int (nI 2)), none]) rfl ?_
  refine je_iload1 (pc := 0) d12014_0 rfl ?_
  refine je_table (pc := 1) 71 d12014_1 (by decide) (by decide) (off := 70) rfl (by decide) ?_
  refine je_aload0 (pc := 71) d12014_71 rfl ?_
  refine ju_callv (pc := 72) (as := []) d12014_72 jL_12_330 jM_Mo_readsWarm rfl (by decide) (sK253 H) rfl (by exact Nat.le_of_ble_eq_true rfl) (t_Mo_readsWarm d H q hs hN R W) (fun r72 h72 q72 => ?_)
  obtain ⟨rfl, g⟩ := q72
  refine je_goto (pc := 75) 164 d12014_75 (by decide) ?_
  refine je_ret (pc := 164) d12014_164 rfl ?_
  exact ⟨rfl, g⟩
set_option maxHeartbeats 4000000 in
theorem t_Mo_stripPart_4 (d : Nat) {bc bs : Nat} {h : jx_H} {N : Nat} {s : Int32 × Nat} {S : MS} (H : jx_St h) (q : mtS h N s) (hs : s.2 ≤ N) (hN : N ≤ 400) (R : mSn h.2.1 S) (W : S.1.1 ≤ 10 ∧ S.1.2.1 ≤ 8 ∧ S.1.2.2.1 ≤ 8) (V8 : S.1.2.1 < 8) : jx_Tr (d + 7) bc bs 12014 [.ref 253, .int (nI 4)] h (fun r h' => r = none ∧ fC mnA h h' ∧ (∀ j, j ≠ 28 → j ≠ 29 → h'.2.1 253 j = h.2.1 253 j) ∧ mtS h' N (ptS (mT h) N 4 s S).1 ∧ ((ptS (mT h) N 4 s S).1.1 = 0 → mSn h'.2.1 (ptS (mT h) N 4 s S).2)) := by
  refine jx_tr jM_Mo_stripPart rfl rfl (lv := [some (.ref 253), some (.int (nI 4)), none]) rfl ?_
  refine je_iload1 (pc := 0) d12014_0 rfl ?_
  refine je_table (pc := 1) 109 d12014_1 (by decide) (by decide) (off := 108) rfl (by decide) ?_
  refine je_aload0 (pc := 109) d12014_109 rfl ?_
  refine ju_callv (pc := 110) (as := []) d12014_110 jL_12_333 jM_Mo_readsVillage rfl (by decide) (sK253 H) rfl (by exact Nat.le_of_ble_eq_true rfl) (t_Mo_readsVillage d H q hs hN R W V8) (fun r110 h110 q110 => ?_)
  obtain ⟨rfl, g⟩ := q110
  refine je_goto (pc := 113) 164 d12014_113 (by decide) ?_
  refine je_ret (pc := 164) d12014_164 rfl ?_
  exact ⟨rfl, g⟩
set_option maxHeartbeats 4000000 in
theorem t_Mo_stripPart_0 (d : Nat) {bc bs : Nat} {h : jx_H} {N : Nat} {s : Int32 × Nat} {S : MS} (H : jx_St h) (q : mtS h N s) (hs : s.2 ≤ N) (hN : N ≤ 400) (R : mSn h.2.1 S) (W : S.1.1 ≤ 10 ∧ S.1.2.1 ≤ 8 ∧ S.1.2.2.1 ≤ 8) : jx_Tr (d + 7) bc bs 12014 [.ref 253, .int (nI 0)] h (fun r h' => r = none ∧ fC mnA h h' ∧ (∀ j, j ≠ 28 → j ≠ 29 → h'.2.1 253 j = h.2.1 253 j) ∧ mtS h' N (ptS (mT h) N 0 s S).1 ∧ ((ptS (mT h) N 0 s S).1.1 = 0 → mSn h'.2.1 (ptS (mT h) N 0 s S).2)) := by
  refine jx_tr jM_Mo_stripPart rfl rfl (lv := [some (.ref 253), some (.int (nI 0)), none]) rfl ?_
  refine je_iload1 (pc := 0) d12014_0 rfl ?_
  refine je_table (pc := 1) 36 d12014_1 (by decide) (by decide) (off := 35) rfl (by decide) ?_
  refine je_aload0 (pc := 36) d12014_36 rfl ?_
  refine ju_getr (pc := 37) (b := 270) d12014_37 jF_12_58 rfl (sK253 H) (sR253_17 H) ?_
  refine je_iconst (pc := 40) (v := 0) d12014_40 rfl ?_
  refine je_aload0 (pc := 41) d12014_41 rfl ?_
  refine je_iconst (pc := 42) (v := 2) d12014_42 rfl ?_
  refine je_bipush (pc := 43) (v := 10) d12014_43 rfl ?_
  refine ju_callv (pc := 45) (as := [_, _]) d12014_45 jL_12_320 jM_Mo_amount rfl (by decide) (sK253 H) rfl (by exact Nat.le_of_ble_eq_true rfl) (t_Mo_amount (d + 2) (N := N) (s := s) 2 10 H q hN) (fun r45 h45 q45 => ?_)
  obtain ⟨v1, rfl, f1, g1, x1, y1⟩ := q45
  have F1 := f1.mn
  have G1 := g1
  have H1 := F1.St H
  refine ju_iast (pc := 48) (jn := 0) d12014_48 (sK270 H1) (by first | assumption | exact jx_ok_dec (by decide)) (by decide) ?_
  refine je_aload0 (pc := 49) d12014_49 rfl ?_
  refine ju_getr (pc := 50) (b := 270) d12014_50 jF_12_58 rfl (sK253 H1.wI) (sR253_17 H1.wI) ?_
  refine je_iconst (pc := 53) (v := 1) d12014_53 rfl ?_
  refine je_aload0 (pc := 54) d12014_54 rfl ?_
  refine je_iconst (pc := 55) (v := 0) d12014_55 rfl ?_
  refine je_iconst (pc := 56) (v := 3) d12014_56 rfl ?_
  refine ju_callv (pc := 57) (as := [_, _]) d12014_57 jL_12_320 jM_Mo_amount rfl (by decide) (sK253 H1.wI) rfl (by exact Nat.le_of_ble_eq_true rfl) (t_Mo_amount (d + 2) (N := N) (s := (amS (mT h) N 2 10 s)) 0 3 H1.wI (x1.wI (by decide)) hN) (fun r57 h57 q57 => ?_)
  obtain ⟨v2, rfl, f2, g2, x2, y2⟩ := q57
  have F2 := (F1.wI (Or.inr (by decide))).tr f2.mn
  have G2 : ∀ j, j ≠ 28 → j ≠ 29 → h57.2.1 253 j = h.2.1 253 j := fun j a1 a2 => (g2 j a1 a2).trans (by rw [wI_ne _ _ _ (by decide)]; exact G1 j a1 a2)
  rw [show ∀ k v, mT (jx_wI h45 270 k v) = mT h from fun k v => (mT_e (F1.wI (Or.inr (by decide))))] at x2 y2
  have H2 := F2.St H
  refine ju_iast (pc := 60) (jn := 1) d12014_60 (sK270 H2) (by first | assumption | exact jx_ok_dec (by decide)) (by decide) ?_
  refine je_goto (pc := 61) 164 d12014_61 (by decide) ?_
  refine je_ret (pc := 164) d12014_164 rfl ?_
  have e1 : (ptS (mT h) N 0 s S).1 = (p0A (mT h) N s) := rfl
  refine ⟨rfl, F2.wI (Or.inr (by decide)), (fun j a1 a2 => by rw [wI_ne _ _ _ (by decide)]; exact G2 j a1 a2), ?_, fun c => ?_⟩
  · rw [e1]; exact x2.wI (by decide)
  · rw [e1] at c
    rw [pt0_o c]
    have b1 : ((amS (mT h) N 2 10 s)).2 ≤ N := am_N hs hN
    have k1 := am_ok c b1 hN
    have k0 := am_ok k1.1 hs hN
    obtain rfl := y1 k1.1
    obtain rfl := y2 c
    exact sn_0 R (fun b b1 b2 => by rw [wI_ne _ _ _ (by omega), f2.2 b (by omega), wI_ne _ _ _ (by omega), f1.2 b (by omega)]) (by rw [wI_at, f2.2 270 (by decide), wI_at, f1.2 270 (by decide)])
set_option maxHeartbeats 4000000 in
theorem t_Mo_stripPart_3 (d : Nat) {bc bs : Nat} {h : jx_H} {N : Nat} {s : Int32 × Nat} {S : MS} (H : jx_St h) (q : mtS h N s) (hs : s.2 ≤ N) (hN : N ≤ 400) (R : mSn h.2.1 S) (W : S.1.1 ≤ 10 ∧ S.1.2.1 ≤ 8 ∧ S.1.2.2.1 ≤ 8) : jx_Tr (d + 7) bc bs 12014 [.ref 253, .int (nI 3)] h (fun r h' => r = none ∧ fC mnA h h' ∧ (∀ j, j ≠ 28 → j ≠ 29 → h'.2.1 253 j = h.2.1 253 j) ∧ mtS h' N (ptS (mT h) N 3 s S).1 ∧ ((ptS (mT h) N 3 s S).1.1 = 0 → mSn h'.2.1 (ptS (mT h) N 3 s S).2)) := by
  refine jx_tr jM_Mo_stripPart rfl rfl (lv := [some (.ref 253), some (.int (nI 3)), none]) rfl ?_
  refine je_iload1 (pc := 0) d12014_0 rfl ?_
  refine je_table (pc := 1) 78 d12014_1 (by decide) (by decide) (off := 77) rfl (by decide) ?_
  refine je_aload0 (pc := 78) d12014_78 rfl ?_
  refine ju_callv (pc := 79) (as := []) d12014_79 jL_12_324 jM_Mo_oneMile rfl (by decide) (sK253 H) rfl (by exact Nat.le_of_ble_eq_true rfl) (t_Mo_oneMile (d + 1) (N := N) (mi := S.1.1) (s := s) H q hN R.1.1) (fun r79 h79 q79 => ?_)
  obtain ⟨v1, rfl, f1, g1, x1, y1⟩ := q79
  have F1 := f1.mn
  have G1 := g1
  have H1 := F1.St H
  refine ju_istore2 (pc := 82) (lv' := [some _, some _, some _]) d12014_82 rfl rfl ?_
  refine je_aload0 (pc := 83) d12014_83 rfl ?_
  refine ju_getr (pc := 84) (b := 270) d12014_84 jF_12_58 rfl (sK253 H1) (sR253_17 H1) ?_
  refine je_iconst (pc := 87) (v := 4) d12014_87 rfl ?_
  refine je_dup2 (pc := 88) d12014_88 rfl rfl ?_
  refine ju_iald (pc := 89) (jn := 4) d12014_89 (sK270 H1) (by first | assumption | exact jx_ok_dec (by decide)) (by decide) ?_
  refine ju_eqi (v := S.2.2.2.2.2.2.1) (by rw [f1.2 270 (by decide)]; exact R.1.2.2.2.2) ?_
  refine je_aload0 (pc := 90) d12014_90 rfl ?_
  refine ju_geti (pc := 91) d12014_91 jF_12_214 rfl (sK253 H1) ?_
  refine ju_eqi (v := (p1a (mT h) N S.1.1 s).1) x1.2.1 ?_
  refine ju_tern1 (pc := 94) (V := (if (p1a (mT h) N S.1.1 s).1 = 0 then 1 <<< (v1 &&& 31) else 0)) 104 ?_ (fun jn94 => ?_)
  · refine je_ior (pc := 104) d12014_104 ?_
    refine ju_iast (pc := 105) (jn := 4) d12014_105 (sK270 H1) (by first | assumption | exact jx_ok_dec (by decide)) (by decide) ?_
    refine je_goto (pc := 106) 164 d12014_106 (by decide) ?_
    refine je_ret (pc := 164) d12014_164 rfl ?_
    have e1 : (ptS (mT h) N 3 s S).1 = (p1a (mT h) N S.1.1 s) := rfl
    refine ⟨rfl, F1.wI (Or.inr (by decide)), (fun j a1 a2 => by rw [wI_ne _ _ _ (by decide)]; exact G1 j a1 a2), ?_, fun c => ?_⟩
    · rw [e1]; exact x1.wI (by decide)
    · rw [e1] at c
      rw [pt3_o c, if_pos c]
      have k0 := am_ok c hs hN
      obtain rfl := y1 c
      exact sn_3 R (fun b b1 b2 => by rw [wI_ne _ _ _ (by omega), f1.2 b (by omega)]) (by rw [wI_at, f1.2 270 (by decide)])
  · refine je_ifne (pc := 94) 103 d12014_94 (by decide) (fun c94 => ?_) (fun c94 => ?_)
    · refine je_iconst (pc := 103) (v := 0) d12014_103 rfl ?_
      refine ju_eqi (v := (if (p1a (mT h) N S.1.1 s).1 = 0 then 1 <<< (v1 &&& 31) else 0)) (by rw [if_neg c94]) ?_
      exact jn94
    · refine je_iconst (pc := 97) (v := 1) d12014_97 rfl ?_
      refine je_iload2 (pc := 98) d12014_98 rfl ?_
      refine je_ishl (pc := 99) d12014_99 ?_
      refine je_goto (pc := 100) 104 d12014_100 (by decide) ?_
      refine ju_eqi (v := (if (p1a (mT h) N S.1.1 s).1 = 0 then 1 <<< (v1 &&& 31) else 0)) (by rw [if_pos c94]) ?_
      exact jn94
set_option maxHeartbeats 4000000 in
theorem t_Mo_stripPart_5 (d : Nat) {bc bs : Nat} {h : jx_H} {N : Nat} {s : Int32 × Nat} {S : MS} (H : jx_St h) (q : mtS h N s) (hs : s.2 ≤ N) (hN : N ≤ 400) (R : mSn h.2.1 S) (W : S.1.1 ≤ 10 ∧ S.1.2.1 ≤ 8 ∧ S.1.2.2.1 ≤ 8) (V8 : S.1.2.2.1 < 8) : jx_Tr (d + 7) bc bs 12014 [.ref 253, .int (nI 5)] h (fun r h' => r = none ∧ fC mnA h h' ∧ (∀ j, j ≠ 28 → j ≠ 29 → h'.2.1 253 j = h.2.1 253 j) ∧ mtS h' N (ptS (mT h) N 5 s S).1 ∧ ((ptS (mT h) N 5 s S).1.1 = 0 → mSn h'.2.1 (ptS (mT h) N 5 s S).2)) := by
  refine jx_tr jM_Mo_stripPart rfl rfl (lv := [some (.ref 253), some (.int (nI 5)), none]) rfl ?_
  refine je_iload1 (pc := 0) d12014_0 rfl ?_
  refine je_tableO (pc := 1) 116 d12014_1 (by decide) (by decide) ?_
  refine je_aload0 (pc := 116) d12014_116 rfl ?_
  refine ju_getr (pc := 117) (b := 270) d12014_117 jF_12_58 rfl (sK253 H) (sR253_17 H) ?_
  refine je_iconst (pc := 120) (v := 3) d12014_120 rfl ?_
  refine ju_iald (pc := 121) (jn := 3) d12014_121 (sK270 H) (by first | assumption | exact jx_ok_dec (by decide)) (by decide) ?_
  refine ju_eqi (v := nI S.1.2.2.1) R.1.2.2.2.1 ?_
  refine ju_istore2 (pc := 122) (lv' := [some _, some _, some _]) d12014_122 rfl rfl ?_
  refine je_aload0 (pc := 123) d12014_123 rfl ?_
  refine ju_getr (pc := 124) (b := 278) d12014_124 jF_12_82 rfl (sK253 H) (sR253_25 H) ?_
  refine je_iload2 (pc := 127) d12014_127 rfl ?_
  refine je_aload0 (pc := 128) d12014_128 rfl ?_
  refine je_iconst (pc := 129) (v := 0) d12014_129 rfl ?_
  refine je_aload0 (pc := 130) d12014_130 rfl ?_
  refine ju_getr (pc := 131) (b := 270) d12014_131 jF_12_58 rfl (sK253 H) (sR253_17 H) ?_
  refine je_iconst (pc := 134) (v := 2) d12014_134 rfl ?_
  refine ju_iald (pc := 135) (jn := 2) d12014_135 (sK270 H) (by first | assumption | exact jx_ok_dec (by decide)) (by decide) ?_
  refine ju_eqi (v := nI S.1.2.1) R.1.2.2.1 ?_
  refine je_iconst (pc := 136) (v := 1) d12014_136 rfl ?_
  refine je_isub (pc := 137) d12014_137 ?_
  refine ju_callv (pc := 138) (as := [_, _]) d12014_138 jL_12_320 jM_Mo_amount rfl (by decide) (sK253 H) rfl (by exact Nat.le_of_ble_eq_true rfl) (t_Mo_amount (d + 2) (N := N) (s := s) 0 (hiN S.1.2.1) H q hN) (fun r138 h138 q138 => ?_)
  obtain ⟨v1, rfl, f1, g1, x1, y1⟩ := q138
  have F1 := f1.mn
  have G1 := g1
  have H1 := F1.St H
  refine ju_iast (pc := 141) (jn := (S.1.2.2.1)) d12014_141 (sK278 H1) (vp_in_nI (by omega) (by decide)) (nI_clamp (by omega)) ?_
  refine je_aload0 (pc := 142) d12014_142 rfl ?_
  refine ju_getr (pc := 143) (b := 279) d12014_143 jF_12_85 rfl (sK253 H1.wI) (sR253_26 H1.wI) ?_
  refine je_iload2 (pc := 146) d12014_146 rfl ?_
  refine je_aload0 (pc := 147) d12014_147 rfl ?_
  refine je_iconst (pc := 148) (v := 0) d12014_148 rfl ?_
  refine je_iconst (pc := 149) (v := 1) d12014_149 rfl ?_
  refine ju_callv (pc := 150) (as := [_, _]) d12014_150 jL_12_320 jM_Mo_amount rfl (by decide) (sK253 H1.wI) rfl (by exact Nat.le_of_ble_eq_true rfl) (t_Mo_amount (d + 2) (N := N) (s := (p1a (mT h) N S.1.2.1 s)) 0 1 H1.wI (x1.wI (by decide)) hN) (fun r150 h150 q150 => ?_)
  obtain ⟨v2, rfl, f2, g2, x2, y2⟩ := q150
  have F2 := (F1.wI (Or.inr (by decide))).tr f2.mn
  have G2 : ∀ j, j ≠ 28 → j ≠ 29 → h150.2.1 253 j = h.2.1 253 j := fun j a1 a2 => (g2 j a1 a2).trans (by rw [wI_ne _ _ _ (by decide)]; exact G1 j a1 a2)
  rw [show ∀ k v, mT (jx_wI h138 278 k v) = mT h from fun k v => (mT_e (F1.wI (Or.inr (by decide))))] at x2 y2
  have H2 := F2.St H
  refine ju_iast (pc := 153) (jn := (S.1.2.2.1)) d12014_153 (sK279 H2) (vp_in_nI (by omega) (by decide)) (nI_clamp (by omega)) ?_
  refine je_aload0 (pc := 154) d12014_154 rfl ?_
  refine ju_getr (pc := 155) (b := 270) d12014_155 jF_12_58 rfl (sK253 H2.wI) (sR253_17 H2.wI) ?_
  refine je_iconst (pc := 158) (v := 3) d12014_158 rfl ?_
  refine je_dup2 (pc := 159) d12014_159 rfl rfl ?_
  refine ju_iald (pc := 160) (jn := 3) d12014_160 (sK270 H2.wI) (by first | assumption | exact jx_ok_dec (by decide)) (by decide) ?_
  refine ju_eqi (v := nI S.1.2.2.1) (by rw [wI_ne _ _ _ (by decide), f2.2 270 (by decide), wI_ne _ _ _ (by decide), f1.2 270 (by decide)]; exact R.1.2.2.2.1) ?_
  refine je_iconst (pc := 161) (v := 1) d12014_161 rfl ?_
  refine je_iadd (pc := 162) d12014_162 ?_
  refine ju_eqi (v := nI ((S.1.2.2.1) + 1)) (nI_add (S.1.2.2.1) 1) ?_
  refine ju_iast (pc := 163) (jn := 3) d12014_163 (sK270 H2.wI) (by first | assumption | exact jx_ok_dec (by decide)) (by decide) ?_
  refine je_ret (pc := 164) d12014_164 rfl ?_
  have e1 : (ptS (mT h) N 5 s S).1 = (p5A (mT h) N S.1.2.1 s) := rfl
  refine ⟨rfl, (F2.wI (Or.inr (by decide))).wI (Or.inr (by decide)), (fun j a1 a2 => by rw [wI_ne _ _ _ (by decide), wI_ne _ _ _ (by decide)]; exact G2 j a1 a2), ?_, fun c => ?_⟩
  · rw [e1]; exact (x2.wI (by decide)).wI (by decide)
  · rw [e1] at c
    rw [pt5_o c]
    have b1 : ((p1a (mT h) N S.1.2.1 s)).2 ≤ N := am_N hs hN
    have k1 := am_ok c b1 hN
    have k0 := am_ok k1.1 hs hN
    obtain rfl := y1 k1.1
    obtain rfl := y2 c
    exact sn_5 R rfl (fun b b1 b2 b3 b4 => by rw [wI_ne _ _ _ (by omega), wI_ne _ _ _ b4, f2.2 b (by omega), wI_ne _ _ _ b3, f1.2 b (by omega)]) (by rw [wI_at, wI_ne _ _ _ (by decide), f2.2 270 (by decide), wI_ne _ _ _ (by decide), f1.2 270 (by decide)]) (by rw [wI_ne _ _ _ (by decide), wI_ne _ _ _ (by decide), f2.2 278 (by decide), wI_at, f1.2 278 (by decide)]) (by rw [wI_ne _ _ _ (by decide), wI_at, f2.2 279 (by decide), wI_ne _ _ _ (by decide), f1.2 279 (by decide)])
