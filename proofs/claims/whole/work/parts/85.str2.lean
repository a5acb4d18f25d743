/-! a strip told: the class takes parts -/
theorem pt0_b {T : Nat → Int32} {N : Nat} {s : Int32 × Nat} {S : MS} (c : ¬ (p0A T N s).1 = 0) : ptS T N 0 s S = (p0A T N s, S) := by
  have e : ptA T N 0 s S = p0A T N s := rfl
  unfold ptS
  rw [e, if_neg c]
theorem pt0_o {T : Nat → Int32} {N : Nat} {s : Int32 × Nat} {S : MS} (c : (p0A T N s).1 = 0) : ptS T N 0 s S = (p0A T N s, p0V T N s S) := by
  have e : ptA T N 0 s S = p0A T N s := rfl
  have e2 : ptV T N 0 s S = p0V T N s S := rfl
  unfold ptS
  rw [e, if_pos c, e2]
theorem pt1_b {T : Nat → Int32} {N : Nat} {s : Int32 × Nat} {S : MS} (c : ¬ (p1A T N S.1.1 s).1 = 0) : ptS T N 1 s S = (p1A T N S.1.1 s, S) := by
  have e : ptA T N 1 s S = p1A T N S.1.1 s := rfl
  unfold ptS
  rw [e, if_neg c]
theorem pt1_o {T : Nat → Int32} {N : Nat} {s : Int32 × Nat} {S : MS} (c : (p1A T N S.1.1 s).1 = 0) : ptS T N 1 s S = (p1A T N S.1.1 s, p1V T N s S) := by
  have e : ptA T N 1 s S = p1A T N S.1.1 s := rfl
  have e2 : ptV T N 1 s S = p1V T N s S := rfl
  unfold ptS
  rw [e, if_pos c, e2]
theorem pt2_b {T : Nat → Int32} {N : Nat} {s : Int32 × Nat} {S : MS} (c : ¬ (p2A T N s).1 = 0) : ptS T N 2 s S = (p2A T N s, S) := by
  have e : ptA T N 2 s S = p2A T N s := rfl
  unfold ptS
  rw [e, if_neg c]
theorem pt2_o {T : Nat → Int32} {N : Nat} {s : Int32 × Nat} {S : MS} (c : (p2A T N s).1 = 0) : ptS T N 2 s S = (p2A T N s, p2V T N s S) := by
  have e : ptA T N 2 s S = p2A T N s := rfl
  have e2 : ptV T N 2 s S = p2V T N s S := rfl
  unfold ptS
  rw [e, if_pos c, e2]
theorem pt3_b {T : Nat → Int32} {N : Nat} {s : Int32 × Nat} {S : MS} (c : ¬ (p1a T N S.1.1 s).1 = 0) : ptS T N 3 s S = (p1a T N S.1.1 s, S) := by
  have e : ptA T N 3 s S = p1a T N S.1.1 s := rfl
  unfold ptS
  rw [e, if_neg c]
theorem pt3_o {T : Nat → Int32} {N : Nat} {s : Int32 × Nat} {S : MS} (c : (p1a T N S.1.1 s).1 = 0) : ptS T N 3 s S = (p1a T N S.1.1 s, p3V T N s S) := by
  have e : ptA T N 3 s S = p1a T N S.1.1 s := rfl
  have e2 : ptV T N 3 s S = p3V T N s S := rfl
  unfold ptS
  rw [e, if_pos c, e2]
theorem pt4_b {T : Nat → Int32} {N : Nat} {s : Int32 × Nat} {S : MS} (c : ¬ (p4A T N S.1.1 s).1 = 0) : ptS T N 4 s S = (p4A T N S.1.1 s, S) := by
  have e : ptA T N 4 s S = p4A T N S.1.1 s := rfl
  unfold ptS
  rw [e, if_neg c]
theorem pt4_o {T : Nat → Int32} {N : Nat} {s : Int32 × Nat} {S : MS} (c : (p4A T N S.1.1 s).1 = 0) : ptS T N 4 s S = (p4A T N S.1.1 s, p4V T N s S) := by
  have e : ptA T N 4 s S = p4A T N S.1.1 s := rfl
  have e2 : ptV T N 4 s S = p4V T N s S := rfl
  unfold ptS
  rw [e, if_pos c, e2]
theorem pt5_b {T : Nat → Int32} {N : Nat} {s : Int32 × Nat} {S : MS} (c : ¬ (p5A T N S.1.2.1 s).1 = 0) : ptS T N 5 s S = (p5A T N S.1.2.1 s, S) := by
  have e : ptA T N 5 s S = p5A T N S.1.2.1 s := rfl
  unfold ptS
  rw [e, if_neg c]
theorem pt5_o {T : Nat → Int32} {N : Nat} {s : Int32 × Nat} {S : MS} (c : (p5A T N S.1.2.1 s).1 = 0) : ptS T N 5 s S = (p5A T N S.1.2.1 s, p5V T N s S) := by
  have e : ptA T N 5 s S = p5A T N S.1.2.1 s := rfl
  have e2 : ptV T N 5 s S = p5V T N s S := rfl
  unfold ptS
  rw [e, if_pos c, e2]
theorem txS.of {h h' : jx_H} {N : Nat} {s : Int32 × Nat} (q : txS h N s) (e2 : h'.2.1 2 = h.2.1 2) (e3 : h'.2.1 3 = h.2.1 3) : txS h' N s := by
  unfold txS txA at q ⊢
  rw [e2, e3]
  exact q
def stA (a b : Nat) : Prop := b = 2 ∨ a ≤ b ∧ b ≤ a + 12
theorem fC.sa {h h' : jx_H} {a : Nat} (f : fC (fun b => b = 2) h h') : fC (stA a) h h' := f.mo (fun b e => Or.inl e)
theorem rS_0 {I I' : Nat → Nat → Int32} {a m : Nat} {dd : Int32} {S : MS} (R : rS I a S) (e : ∀ b, a < b → b ≤ a + 12 → I' b = I b) (e0 : I' a 0 = nI m) (e1 : I' a 1 = dd) (e2 : I' a 2 = I a 2) (e3 : I' a 3 = I a 3) : rS I' a ((m, S.1.2.1, S.1.2.2.1, dd), S.2) := by
  obtain ⟨h1, h2, h3, h4, h5, h6⟩ := R
  unfold rS
  rw [e (a + 1) (by omega) (by omega), e (a + 2) (by omega) (by omega), e (a + 3) (by omega) (by omega), e (a + 4) (by omega) (by omega), e (a + 5) (by omega) (by omega), e (a + 6) (by omega) (by omega), e (a + 7) (by omega) (by omega), e0, e1, e2, e3]
  exact ⟨⟨rfl, rfl, h1.2.2.1, h1.2.2.2⟩, h2, h3, h4, h5, h6.of (fun b b1 b2 => e b (by omega) (by omega))⟩
theorem up_cg {f g : Nat → Int32} {m k : Nat} {x : Int32} (e : f k = g k) : jx_up f m x k = jx_up g m x k := by
  unfold jx_up
  split
  · rfl
  · exact e
theorem rS_1 {I I' : Nat → Nat → Int32} {a m : Nat} {x y z : Int32} {S : MS} (R : rS I a S) (e : ∀ b, a ≤ b → b ≤ a + 12 → b ≠ a + 8 + 1 → b ≠ a + 8 + 2 → b ≠ a + 8 + 3 → I' b = I b) (e1 : I' (a + 8 + 1) = jx_up (I (a + 8 + 1)) m x) (e2 : I' (a + 8 + 2) = jx_up (I (a + 8 + 2)) m y) (e3 : I' (a + 8 + 3) = jx_up (I (a + 8 + 3)) m z) : rS I' a (S.1, S.2.1, (jx_up S.2.2.1 m x, jx_up S.2.2.2.1 m y, jx_up S.2.2.2.2.1 m z, S.2.2.2.2.2)) := by
  obtain ⟨h1, h2, h3, h4, h5, h6, h7, h8, h9, h10⟩ := R
  unfold rS rL
  rw [e (a + 1) (by omega) (by omega) (by omega) (by omega) (by omega), e (a + 2) (by omega) (by omega) (by omega) (by omega) (by omega), e (a + 3) (by omega) (by omega) (by omega) (by omega) (by omega), e (a + 4) (by omega) (by omega) (by omega) (by omega) (by omega), e (a + 5) (by omega) (by omega) (by omega) (by omega) (by omega), e (a + 6) (by omega) (by omega) (by omega) (by omega) (by omega), e (a + 7) (by omega) (by omega) (by omega) (by omega) (by omega), e a (by omega) (by omega) (by omega) (by omega) (by omega), e1, e2, e3, e (a + 8) (by omega) (by omega) (by omega) (by omega) (by omega), e (a + 8 + 4) (by omega) (by omega) (by omega) (by omega) (by omega)]
  exact ⟨h1, h2, h3, h4, h5, fun k hk => up_cg (h6 k hk), fun k hk => up_cg (h7 k hk), fun k hk => up_cg (h8 k hk), h9, h10⟩
theorem rS_2 {I I' : Nat → Nat → Int32} {a : Nat} {g : Nat → Int32} {S : MS} (R : rS I a S) (e : ∀ b, a ≤ b → b ≤ a + 12 → b ≠ a + 1 → I' b = I b) (e1 : ∀ j, j < 100 → I' (a + 1) j = g j) : rS I' a (S.1, (g, S.2.1.2), S.2.2) := by
  obtain ⟨h1, h2, h3, h4, h5, h6⟩ := R
  unfold rS
  rw [e (a + 2) (by omega) (by omega) (by omega), e (a + 3) (by omega) (by omega) (by omega), e (a + 4) (by omega) (by omega) (by omega), e (a + 5) (by omega) (by omega) (by omega), e (a + 6) (by omega) (by omega) (by omega), e (a + 7) (by omega) (by omega) (by omega), e a (by omega) (by omega) (by omega)]
  exact ⟨h1, e1, h3, h4, h5, h6.of (fun b b1 b2 => e b (by omega) (by omega) (by omega))⟩
theorem rS_3 {I I' : Nat → Nat → Int32} {a : Nat} {x : Int32} {S : MS} (R : rS I a S) (e : ∀ b, a ≤ b → b ≤ a + 12 → b ≠ a + 8 → I' b = I b) (e1 : I' (a + 8) = jx_up (I (a + 8)) 4 x) : rS I' a (S.1, S.2.1, (S.2.2.1, S.2.2.2.1, S.2.2.2.2.1, S.2.2.2.2.2.1, x, S.2.2.2.2.2.2.2)) := by
  obtain ⟨h1, h2, h3, h4, h5, h6, h7, h8, h9, h10, h11⟩ := R
  unfold rS rL
  rw [e (a + 1) (by omega) (by omega) (by omega), e (a + 2) (by omega) (by omega) (by omega), e (a + 3) (by omega) (by omega) (by omega), e (a + 4) (by omega) (by omega) (by omega), e (a + 5) (by omega) (by omega) (by omega), e (a + 6) (by omega) (by omega) (by omega), e (a + 7) (by omega) (by omega) (by omega), e a (by omega) (by omega) (by omega), e1, e (a + 8 + 1) (by omega) (by omega) (by omega), e (a + 8 + 2) (by omega) (by omega) (by omega), e (a + 8 + 3) (by omega) (by omega) (by omega), e (a + 8 + 4) (by omega) (by omega) (by omega)]
  exact ⟨h1, h2, h3, h4, h5, h6, h7, h8, h9, jx_up_self _ _ _, (jx_up_ne _ _ (by decide)).trans h11⟩
theorem mk_in_up {vm : Nat → Int32} {y x : Int32} : ∀ {n v : Nat}, n ≤ v → mk_in (jx_up vm v y) x n = mk_in vm x n
  | 0, _, _ => rfl
  | n + 1, v, h => by rw [mk_in, mk_in, mk_in_up (n := n) (by omega), jx_up_ne _ _ (by omega)]
theorem rS_4 {I I' : Nat → Nat → Int32} {a m v : Nat} {x y : Int32} {S : MS} (R : rS I a S) (hm : m < 10) (hv : S.1.2.1 = v) (e : ∀ b, a ≤ b → b ≤ a + 12 → b ≠ a → b ≠ a + 2 → b ≠ a + 3 → b ≠ a + 4 → b ≠ a + 5 → I' b = I b) (e0 : I' a = jx_up (I a) 2 (nI (v + 1))) (e2 : I' (a + 2) = jx_up (I (a + 2)) v (nI m)) (e3 : I' (a + 3) = jx_up (I (a + 3)) v x) (e4 : I' (a + 4) = jx_up (I (a + 4)) v y) (e5 : I' (a + 5) = jx_up (I (a + 5)) m (I (a + 5) m ||| (1 <<< (nI v &&& 31)))) : rS I' a ((S.1.1, v + 1, S.1.2.2), (S.2.1.1, jx_up S.2.1.2.1 v (nI m), jx_up S.2.1.2.2.1 v x, jx_up S.2.1.2.2.2.1 v y, S.2.1.2.2.2.2), S.2.2) := by
  obtain ⟨h1, h2, h3, h4, h5, h6⟩ := R
  unfold rS
  rw [e (a + 1) (by omega) (by omega) (by omega) (by omega) (by omega) (by omega) (by omega), e (a + 6) (by omega) (by omega) (by omega) (by omega) (by omega) (by omega) (by omega), e (a + 7) (by omega) (by omega) (by omega) (by omega) (by omega) (by omega) (by omega), e0, e2, e3, e4, e5]
  refine ⟨⟨(jx_up_ne _ _ (by decide)).trans h1.1, (jx_up_ne _ _ (by decide)).trans h1.2.1, jx_up_self _ _ _, (jx_up_ne _ _ (by decide)).trans h1.2.2.2⟩, h2, fun u hu => ?_, fun k hk => ?_, h5, h6.of (fun b b1 b2 => e b (by omega) (by omega) (by omega) (by omega) (by omega) (by omega) (by omega))⟩
  · by_cases z : u = v
    · rw [z, jx_up_self, jx_up_self, jx_up_self]
      exact ⟨(jx_up_self _ _ _).symm, (jx_up_self _ _ _).symm, (jx_up_self _ _ _).symm⟩
    · have hu : u < v + 1 := hu
      rw [jx_up_ne _ _ z, jx_up_ne _ _ z, jx_up_ne _ _ z]
      have := h3 u (by omega)
      exact ⟨this.1.trans (jx_up_ne _ _ z).symm, this.2.1.trans (jx_up_ne _ _ z).symm, this.2.2.trans (jx_up_ne _ _ z).symm⟩
  · show _ = mk_in (jx_up S.2.1.2.1 v (nI m)) (nI k) (v + 1)
    rw [mk_in, mk_in_up (Nat.le_refl v), jx_up_self]
    have h4k := h4 k hk
    rw [hv] at h4k
    by_cases z : k = m
    · rw [z, jx_up_self, if_pos rfl, ← z, h4k]
    · rw [jx_up_ne _ _ z, if_neg (fun y => z ((nI_eq (by omega) (by omega)).mp y).symm)]
      exact h4k
theorem rS_5 {I I' : Nat → Nat → Int32} {a v : Nat} {x y : Int32} {S : MS} (R : rS I a S) (hv : S.1.2.2.1 = v) (e : ∀ b, a ≤ b → b ≤ a + 12 → b ≠ a → b ≠ a + 6 → b ≠ a + 7 → I' b = I b) (e0 : I' a = jx_up (I a) 3 (nI (v + 1))) (e2 : I' (a + 6) = jx_up (I (a + 6)) v x) (e3 : I' (a + 7) = jx_up (I (a + 7)) v y) : rS I' a ((S.1.1, S.1.2.1, v + 1, S.1.2.2.2), (S.2.1.1, S.2.1.2.1, S.2.1.2.2.1, S.2.1.2.2.2.1, jx_up S.2.1.2.2.2.2.1 v x, jx_up S.2.1.2.2.2.2.2 v y), S.2.2) := by
  obtain ⟨h1, h2, h3, h4, h5, h6⟩ := R
  unfold rS
  rw [e (a + 1) (by omega) (by omega) (by omega) (by omega) (by omega), e (a + 2) (by omega) (by omega) (by omega) (by omega) (by omega), e (a + 3) (by omega) (by omega) (by omega) (by omega) (by omega), e (a + 4) (by omega) (by omega) (by omega) (by omega) (by omega), e (a + 5) (by omega) (by omega) (by omega) (by omega) (by omega), e0, e2, e3]
  refine ⟨⟨(jx_up_ne _ _ (by decide)).trans h1.1, (jx_up_ne _ _ (by decide)).trans h1.2.1, (jx_up_ne _ _ (by decide)).trans h1.2.2.1, jx_up_self _ _ _⟩, h2, h3, h4, fun u hu => ?_, h6.of (fun b b1 b2 => e b (by omega) (by omega) (by omega) (by omega) (by omega))⟩
  by_cases z : u = v
  · rw [z, jx_up_self, jx_up_self]
    exact ⟨(jx_up_self _ _ _).symm, (jx_up_self _ _ _).symm⟩
  · have hu : u < v + 1 := hu
    rw [jx_up_ne _ _ z, jx_up_ne _ _ z]
    have := h5 u (by omega)
    exact ⟨this.1.trans (jx_up_ne _ _ z).symm, this.2.trans (jx_up_ne _ _ z).symm⟩
set_option maxHeartbeats 2000000 in
theorem t_Sr_readStrip (d : Nat) {bc bs : Nat} {h : jx_H} {N a : Nat} {s : Int32 × Nat} {S : MS} (H : jx_St h) (q : txS h N s) (hs : s.2 ≤ N) (hN : N ≤ 400) (hT : bytT (h.2.1 3) N) (ha : 304 ≤ a) (SP : jx_Sp h a) (RA : h.2.2.2 4 1 = some a) (R : rS h.2.1 a S) (W : S.1.1 ≤ 10 ∧ S.1.2.1 ≤ 8 ∧ S.1.2.2.1 ≤ 8) : jx_Tr (d + 6) bc bs 2005 [.ref 4] h (fun r h' => r = none ∧ fC (stA a) h h' ∧ txS h' N (ptS (h.2.1 3) N 0 s S).1 ∧ rS h'.2.1 a (ptS (h.2.1 3) N 0 s S).2) := by
  refine jx_tr jM_Sr_readStrip rfl rfl (lv := [some (.ref 4), none, none]) rfl ?_
  refine je_aload0 (pc := 0) d2005_0 rfl ?_
  refine ju_getr (pc := 1) (b := 2) d2005_1 jF_2_18 rfl (sK4 H) (sR4_0 H) ?_
  refine je_iconst (pc := 4) (v := 2) d2005_4 rfl ?_
  refine je_bipush (pc := 5) (v := 10) d2005_5 rfl ?_
  refine ju_callv (pc := 7) (as := [_, _]) d2005_7 jL_2_98 jM_Tx_takeNumber rfl (by decide) (sK2 H) rfl (by exact Nat.le_of_ble_eq_true rfl) (t_Tx_takeNumber (d + 0) (N := N) (s := s) 2 10 H q hN hT) (fun r7 h7 q7 => ?_)
  obtain ⟨v1, rfl, f1, x1, y1⟩ := q7
  have F1 := f1
  have H1 := F1.St H
  have SP1 := F1.Sp SP
  have BkR1 := F1.rr RA
  have eT1 : h7.2.1 3 = h.2.1 3 := F1.2 3 (by decide)
  refine ju_istore1 (pc := 10) (lv' := [some _, some _, none]) d2005_10 rfl rfl ?_
  refine je_aload0 (pc := 11) d2005_11 rfl ?_
  refine ju_getr (pc := 12) (b := 2) d2005_12 jF_2_18 rfl (sK4 H1) (sR4_0 H1) ?_
  refine je_iconst (pc := 15) (v := 0) d2005_15 rfl ?_
  refine je_iconst (pc := 16) (v := 3) d2005_16 rfl ?_
  refine ju_callv (pc := 17) (as := [_, _]) d2005_17 jL_2_98 jM_Tx_takeNumber rfl (by decide) (sK2 H1) rfl (by exact Nat.le_of_ble_eq_true rfl) (t_Tx_takeNumber (d + 0) (N := N) (s := (amS (h.2.1 3) N 2 10 s)) 0 3 H1 x1 hN (by rw [eT1]; exact hT)) (fun r17 h17 q17 => ?_)
  obtain ⟨v2, rfl, f2, x2, y2⟩ := q17
  rw [eT1] at x2 y2
  have F2 := F1.tr f2
  have H2 := F2.St H
  have SP2 := F2.Sp SP
  have BkR2 := F2.rr RA
  have eT2 : h17.2.1 3 = h.2.1 3 := F2.2 3 (by decide)
  refine ju_istore2 (pc := 20) (lv' := [some _, some _, some _]) d2005_20 rfl rfl ?_
  refine je_aload0 (pc := 21) d2005_21 rfl ?_
  refine ju_getr (pc := 22) (b := 2) d2005_22 jF_2_18 rfl (sK4 H2) (sR4_0 H2) ?_
  refine ju_geti (pc := 25) d2005_25 jF_2_102 rfl (sK2 H2) ?_
  refine ju_eqi (v := (p0A (h.2.1 3) N s).1) x2.2.1 ?_
  refine je_ifne (pc := 28) 47 d2005_28 (by decide) (fun c28 => ?_) (fun c28 => ?_)
  · refine je_ret (pc := 47) d2005_47 rfl ?_
    rw [pt0_b c28]
    have xx : txS _ N (p0A (h.2.1 3) N s) := x2
    exact ⟨rfl, F2.sa, xx, R.of (fun b b1 b2 => F2.2 b (by omega))⟩
  · have b1 : ((amS (h.2.1 3) N 2 10 s)).2 ≤ N := am_N hs hN
    have k1 := am_ok c28 b1 hN
    have k0 := am_ok k1.1 hs hN
    obtain rfl := y1 k1.1
    obtain rfl := y2 c28
    refine je_aload0 (pc := 31) d2005_31 rfl ?_
    refine ju_getr (pc := 32) (b := a) d2005_32 jF_2_12 rfl (sK4 H2) BkR2 ?_
    refine je_iload1 (pc := 35) d2005_35 rfl ?_
    refine ju_puti (pc := 36) d2005_36 jF_2_105 rfl SP2.1.1 ?_
    refine je_aload0 (pc := 39) d2005_39 rfl ?_
    refine ju_getr (pc := 40) (b := a) d2005_40 jF_2_12 rfl (sK4 H2.wI) BkR2 ?_
    refine je_iload2 (pc := 43) d2005_43 rfl ?_
    refine ju_puti (pc := 44) d2005_44 jF_2_108 rfl SP2.wI.1.1 ?_
    refine je_ret (pc := 47) d2005_47 rfl ?_
    rw [pt0_o c28]
    have xx : txS h17 N (p0A (h.2.1 3) N s) := x2
    exact ⟨rfl, (F2.sa.wI (Or.inr (by omega))).wI (Or.inr (by omega)), xx.of (by rw [wI_ne _ _ _ (by omega), wI_ne _ _ _ (by omega)]) (by rw [wI_ne _ _ _ (by omega), wI_ne _ _ _ (by omega)]), rS_0 R (fun b b1 b2 => by rw [wI_ne _ _ _ (by omega), wI_ne _ _ _ (by omega)]; exact F2.2 b (by omega)) (by rw [wI_at, jx_up_ne _ _ (by decide), wI_at, jx_up_self]) (by rw [wI_at, jx_up_self]) (by rw [wI_at, jx_up_ne _ _ (by decide), wI_at, jx_up_ne _ _ (by decide), F2.2 a (by omega)]) (by rw [wI_at, jx_up_ne _ _ (by decide), wI_at, jx_up_ne _ _ (by decide), F2.2 a (by omega)])⟩
set_option maxHeartbeats 4000000 in
theorem t_Sr_readMile (d : Nat) {bc bs : Nat} {h : jx_H} {N a : Nat} {s : Int32 × Nat} {S : MS} (H : jx_St h) (q : txS h N s) (hs : s.2 ≤ N) (hN : N ≤ 400) (hT : bytT (h.2.1 3) N) (ha : 304 ≤ a) (SP : jx_Sp h a) (RA : h.2.2.2 4 1 = some a) (R : rS h.2.1 a S) (W : S.1.1 ≤ 10 ∧ S.1.2.1 ≤ 8 ∧ S.1.2.2.1 ≤ 8) : jx_Tr (d + 6) bc bs 2006 [.ref 4] h (fun r h' => r = none ∧ fC (stA a) h h' ∧ txS h' N (ptS (h.2.1 3) N 1 s S).1 ∧ rS h'.2.1 a (ptS (h.2.1 3) N 1 s S).2) := by
  refine jx_tr jM_Sr_readMile rfl rfl (lv := [some (.ref 4), none, none, none, none]) rfl ?_
  refine je_aload0 (pc := 0) d2006_0 rfl ?_
  refine ju_getr (pc := 1) (b := 2) d2006_1 jF_2_18 rfl (sK4 H) (sR4_0 H) ?_
  refine je_iconst (pc := 4) (v := 0) d2006_4 rfl ?_
  refine je_aload0 (pc := 5) d2006_5 rfl ?_
  refine ju_getr (pc := 6) (b := a) d2006_6 jF_2_12 rfl (sK4 H) RA ?_
  refine ju_geti (pc := 9) d2006_9 jF_2_105 rfl SP.1.1 ?_
  refine ju_eqi (v := nI S.1.1) (by rw [(fC.rf (A := fun b => b = 2) (h := h)).2 a (by omega)]; exact R.1.1) ?_
  refine je_iconst (pc := 12) (v := 1) d2006_12 rfl ?_
  refine je_isub (pc := 13) d2006_13 ?_
  refine ju_callv (pc := 14) (as := [_, _]) d2006_14 jL_2_98 jM_Tx_takeNumber rfl (by decide) (sK2 H) rfl (by exact Nat.le_of_ble_eq_true rfl) (t_Tx_takeNumber (d + 0) (N := N) (s := s) 0 (hiN S.1.1) H q hN hT) (fun r14 h14 q14 => ?_)
  obtain ⟨v1, rfl, f1, x1, y1⟩ := q14
  have F1 := f1
  have H1 := F1.St H
  have SP1 := F1.Sp SP
  have BkR1 := F1.rr RA
  have eT1 : h14.2.1 3 = h.2.1 3 := F1.2 3 (by decide)
  refine ju_istore1 (pc := 17) (lv' := [some _, some _, none, none, none]) d2006_17 rfl rfl ?_
  refine je_aload0 (pc := 18) d2006_18 rfl ?_
  refine ju_getr (pc := 19) (b := 2) d2006_19 jF_2_18 rfl (sK4 H1) (sR4_0 H1) ?_
  refine je_iconst (pc := 22) (v := 0) d2006_22 rfl ?_
  refine je_bipush (pc := 23) (v := 40) d2006_23 rfl ?_
  refine ju_callv (pc := 25) (as := [_, _]) d2006_25 jL_2_98 jM_Tx_takeNumber rfl (by decide) (sK2 H1) rfl (by exact Nat.le_of_ble_eq_true rfl) (t_Tx_takeNumber (d + 0) (N := N) (s := (p1a (h.2.1 3) N S.1.1 s)) 0 40 H1 x1 hN (by rw [eT1]; exact hT)) (fun r25 h25 q25 => ?_)
  obtain ⟨v2, rfl, f2, x2, y2⟩ := q25
  rw [eT1] at x2 y2
  have F2 := F1.tr f2
  have H2 := F2.St H
  have SP2 := F2.Sp SP
  have BkR2 := F2.rr RA
  have eT2 : h25.2.1 3 = h.2.1 3 := F2.2 3 (by decide)
  refine je_bipush (pc := 28) (v := 20) d2006_28 rfl ?_
  refine je_isub (pc := 30) d2006_30 ?_
  refine ju_istore2 (pc := 31) (lv' := [some _, some _, some _, none, none]) d2006_31 rfl rfl ?_
  refine je_aload0 (pc := 32) d2006_32 rfl ?_
  refine ju_getr (pc := 33) (b := 2) d2006_33 jF_2_18 rfl (sK4 H2) (sR4_0 H2) ?_
  refine je_iconst (pc := 36) (v := 0) d2006_36 rfl ?_
  refine je_bipush (pc := 37) (v := 99) d2006_37 rfl ?_
  refine ju_callv (pc := 39) (as := [_, _]) d2006_39 jL_2_98 jM_Tx_takeNumber rfl (by decide) (sK2 H2) rfl (by exact Nat.le_of_ble_eq_true rfl) (t_Tx_takeNumber (d + 0) (N := N) (s := (p1b (h.2.1 3) N S.1.1 s)) 0 99 H2 x2 hN (by rw [eT2]; exact hT)) (fun r39 h39 q39 => ?_)
  obtain ⟨v3, rfl, f3, x3, y3⟩ := q39
  rw [eT2] at x3 y3
  have F3 := F2.tr f3
  have H3 := F3.St H
  have SP3 := F3.Sp SP
  have BkR3 := F3.rr RA
  have eT3 : h39.2.1 3 = h.2.1 3 := F3.2 3 (by decide)
  refine ju_istore3 (pc := 42) (lv' := [some _, some _, some _, some _, none]) d2006_42 rfl rfl ?_
  refine je_aload0 (pc := 43) d2006_43 rfl ?_
  refine ju_getr (pc := 44) (b := 2) d2006_44 jF_2_18 rfl (sK4 H3) (sR4_0 H3) ?_
  refine je_iconst (pc := 47) (v := 0) d2006_47 rfl ?_
  refine je_bipush (pc := 48) (v := 9) d2006_48 rfl ?_
  refine ju_callv (pc := 50) (as := [_, _]) d2006_50 jL_2_98 jM_Tx_takeNumber rfl (by decide) (sK2 H3) rfl (by exact Nat.le_of_ble_eq_true rfl) (t_Tx_takeNumber (d + 0) (N := N) (s := (p1c (h.2.1 3) N S.1.1 s)) 0 9 H3 x3 hN (by rw [eT3]; exact hT)) (fun r50 h50 q50 => ?_)
  obtain ⟨v4, rfl, f4, x4, y4⟩ := q50
  rw [eT3] at x4 y4
  have F4 := F3.tr f4
  have H4 := F4.St H
  have SP4 := F4.Sp SP
  have BkR4 := F4.rr RA
  have eT4 : h50.2.1 3 = h.2.1 3 := F4.2 3 (by decide)
  refine ju_istore (pc := 53) (lv' := [some _, some _, some _, some _, some _]) d2006_53 rfl rfl ?_
  refine je_aload0 (pc := 55) d2006_55 rfl ?_
  refine ju_getr (pc := 56) (b := 2) d2006_56 jF_2_18 rfl (sK4 H4) (sR4_0 H4) ?_
  refine ju_geti (pc := 59) d2006_59 jF_2_102 rfl (sK2 H4) ?_
  refine ju_eqi (v := (p1A (h.2.1 3) N S.1.1 s).1) x4.2.1 ?_
  refine je_ifne (pc := 62) 105 d2006_62 (by decide) (fun c62 => ?_) (fun c62 => ?_)
  · refine je_ret (pc := 105) d2006_105 rfl ?_
    rw [pt1_b c62]
    have xx : txS _ N (p1A (h.2.1 3) N S.1.1 s) := x4
    exact ⟨rfl, F4.sa, xx, R.of (fun b b1 b2 => F4.2 b (by omega))⟩
  · have b1 : ((p1a (h.2.1 3) N S.1.1 s)).2 ≤ N := am_N hs hN
    have b2 : ((p1b (h.2.1 3) N S.1.1 s)).2 ≤ N := am_N b1 hN
    have b3 : ((p1c (h.2.1 3) N S.1.1 s)).2 ≤ N := am_N b2 hN
    have k3 := am_ok c62 b3 hN
    have k2 := am_ok k3.1 b2 hN
    have k1 := am_ok k2.1 b1 hN
    have k0 := am_ok k1.1 hs hN
    obtain rfl := y1 k1.1
    obtain rfl := y2 k2.1
    obtain rfl := y3 k3.1
    obtain rfl := y4 c62
    have hm := am_hi k1.1 hs hN (by omega)
    refine je_aload0 (pc := 65) d2006_65 rfl ?_
    refine ju_getr (pc := 66) (b := a) d2006_66 jF_2_12 rfl (sK4 H4) BkR4 ?_
    refine ju_getr (pc := 69) (b := (a + 8)) d2006_69 jF_2_27 rfl SP4.1.1 SP4.1.2.2.2.2.2.2.2.2.2 ?_
    refine ju_getr (pc := 72) (b := ((a + 8) + 1)) d2006_72 jF_2_111 rfl SP4.1.2.2.2.2.2.2.2.2.1 SP4.2.2.1.2 ?_
    refine je_iload1 (pc := 75) d2006_75 rfl ?_
    refine je_iload2 (pc := 76) d2006_76 rfl ?_
    refine ju_iast (pc := 77) (jn := (amV (h.2.1 3) N s.2)) d2006_77 SP4.2.2.1.1 (vp_in_nI (by omega) (by decide)) (nI_clamp (by omega)) ?_
    refine je_aload0 (pc := 78) d2006_78 rfl ?_
    refine ju_getr (pc := 79) (b := a) d2006_79 jF_2_12 rfl (sK4 H4.wI) BkR4 ?_
    refine ju_getr (pc := 82) (b := (a + 8)) d2006_82 jF_2_27 rfl SP4.wI.1.1 SP4.wI.1.2.2.2.2.2.2.2.2.2 ?_
    refine ju_getr (pc := 85) (b := ((a + 8) + 2)) d2006_85 jF_2_30 rfl SP4.wI.1.2.2.2.2.2.2.2.2.1 SP4.wI.2.2.2.1.2 ?_
    refine je_iload1 (pc := 88) d2006_88 rfl ?_
    refine je_iload3 (pc := 89) d2006_89 rfl ?_
    refine ju_iast (pc := 90) (jn := (amV (h.2.1 3) N s.2)) d2006_90 SP4.wI.2.2.2.1.1 (vp_in_nI (by omega) (by decide)) (nI_clamp (by omega)) ?_
    refine je_aload0 (pc := 91) d2006_91 rfl ?_
    refine ju_getr (pc := 92) (b := a) d2006_92 jF_2_12 rfl (sK4 H4.wI.wI) BkR4 ?_
    refine ju_getr (pc := 95) (b := (a + 8)) d2006_95 jF_2_27 rfl SP4.wI.wI.1.1 SP4.wI.wI.1.2.2.2.2.2.2.2.2.2 ?_
    refine ju_getr (pc := 98) (b := ((a + 8) + 3)) d2006_98 jF_2_114 rfl SP4.wI.wI.1.2.2.2.2.2.2.2.2.1 SP4.wI.wI.2.2.2.2.1.2 ?_
    refine je_iload1 (pc := 101) d2006_101 rfl ?_
    refine je_iload (pc := 102) d2006_102 rfl ?_
    refine ju_iast (pc := 104) (jn := (amV (h.2.1 3) N s.2)) d2006_104 SP4.wI.wI.2.2.2.2.1.1 (vp_in_nI (by omega) (by decide)) (nI_clamp (by omega)) ?_
    refine je_ret (pc := 105) d2006_105 rfl ?_
    rw [pt1_o c62]
    have xx : txS h50 N (p1A (h.2.1 3) N S.1.1 s) := x4
    exact ⟨rfl, ((F4.sa.wI (Or.inr (by omega))).wI (Or.inr (by omega))).wI (Or.inr (by omega)), xx.of (by rw [wI_ne _ _ _ (by omega), wI_ne _ _ _ (by omega), wI_ne _ _ _ (by omega)]) (by rw [wI_ne _ _ _ (by omega), wI_ne _ _ _ (by omega), wI_ne _ _ _ (by omega)]), rS_1 R (fun b b1 b2 b3 b4 b5 => by rw [wI_ne _ _ _ b5, wI_ne _ _ _ b4, wI_ne _ _ _ b3]; exact F4.2 b (by omega)) (by rw [wI_ne _ _ _ (by omega), wI_ne _ _ _ (by omega), wI_at, F4.2 (a + 8 + 1) (by omega)]) (by rw [wI_ne _ _ _ (by omega), wI_at, wI_ne _ _ _ (by omega), F4.2 (a + 8 + 2) (by omega)]) (by rw [wI_at, wI_ne _ _ _ (by omega), wI_ne _ _ _ (by omega), F4.2 (a + 8 + 3) (by omega)])⟩
set_option maxHeartbeats 4000000 in
theorem t_Sr_readWarm (d : Nat) {bc bs : Nat} {h : jx_H} {N a : Nat} {s : Int32 × Nat} {S : MS} (H : jx_St h) (q : txS h N s) (hs : s.2 ≤ N) (hN : N ≤ 400) (hT : bytT (h.2.1 3) N) (ha : 304 ≤ a) (SP : jx_Sp h a) (RA : h.2.2.2 4 1 = some a) (R : rS h.2.1 a S) (W : S.1.1 ≤ 10 ∧ S.1.2.1 ≤ 8 ∧ S.1.2.2.1 ≤ 8) : jx_Tr (d + 6) bc bs 2007 [.ref 4] h (fun r h' => r = none ∧ fC (stA a) h h' ∧ txS h' N (ptS (h.2.1 3) N 2 s S).1 ∧ rS h'.2.1 a (ptS (h.2.1 3) N 2 s S).2) := by
  refine jx_tr jM_Sr_readWarm rfl rfl (lv := [some (.ref 4), none, none, none, none]) rfl ?_
  refine je_aload0 (pc := 0) d2007_0 rfl ?_
  refine ju_getr (pc := 1) (b := 2) d2007_1 jF_2_18 rfl (sK4 H) (sR4_0 H) ?_
  refine je_iconst (pc := 4) (v := 0) d2007_4 rfl ?_
  refine je_bipush (pc := 5) (v := 99) d2007_5 rfl ?_
  refine ju_callv (pc := 7) (as := [_, _]) d2007_7 jL_2_98 jM_Tx_takeNumber rfl (by decide) (sK2 H) rfl (by exact Nat.le_of_ble_eq_true rfl) (t_Tx_takeNumber (d + 0) (N := N) (s := s) 0 99 H q hN hT) (fun r7 h7 q7 => ?_)
  obtain ⟨v1, rfl, f1, x1, y1⟩ := q7
  have F1 := f1
  have H1 := F1.St H
  have SP1 := F1.Sp SP
  have BkR1 := F1.rr RA
  have eT1 : h7.2.1 3 = h.2.1 3 := F1.2 3 (by decide)
  refine ju_istore1 (pc := 10) (lv' := [some _, some _, none, none, none]) d2007_10 rfl rfl ?_
  refine je_aload0 (pc := 11) d2007_11 rfl ?_
  refine ju_getr (pc := 12) (b := 2) d2007_12 jF_2_18 rfl (sK4 H1) (sR4_0 H1) ?_
  refine je_iload1 (pc := 15) d2007_15 rfl ?_
  refine je_bipush (pc := 16) (v := 99) d2007_16 rfl ?_
  refine ju_callv (pc := 18) (as := [_, _]) d2007_18 jL_2_98 jM_Tx_takeNumber rfl (by decide) (sK2 H1) rfl (by exact Nat.le_of_ble_eq_true rfl) (t_Tx_takeNumber (d + 0) (N := N) (s := (p2a (h.2.1 3) N s)) _ 99 H1 x1 hN (by rw [eT1]; exact hT)) (fun r18 h18 q18 => ?_)
  obtain ⟨v2, rfl, f2, x2, y2⟩ := q18
  rw [eT1] at x2 y2
  rw [am_lo (lo' := nI (amV (h.2.1 3) N s.2)) (s := (p2a (h.2.1 3) N s)) (fun z => y1 z)] at x2 y2
  have F2 := F1.tr f2
  have H2 := F2.St H
  have SP2 := F2.Sp SP
  have BkR2 := F2.rr RA
  have eT2 : h18.2.1 3 = h.2.1 3 := F2.2 3 (by decide)
  refine ju_istore2 (pc := 21) (lv' := [some _, some _, some _, none, none]) d2007_21 rfl rfl ?_
  refine je_aload0 (pc := 22) d2007_22 rfl ?_
  refine ju_getr (pc := 23) (b := 2) d2007_23 jF_2_18 rfl (sK4 H2) (sR4_0 H2) ?_
  refine je_iconst (pc := 26) (v := 1) d2007_26 rfl ?_
  refine je_bipush (pc := 27) (v := 9) d2007_27 rfl ?_
  refine ju_callv (pc := 29) (as := [_, _]) d2007_29 jL_2_98 jM_Tx_takeNumber rfl (by decide) (sK2 H2) rfl (by exact Nat.le_of_ble_eq_true rfl) (t_Tx_takeNumber (d + 0) (N := N) (s := (p2b (h.2.1 3) N s)) 1 9 H2 x2 hN (by rw [eT2]; exact hT)) (fun r29 h29 q29 => ?_)
  obtain ⟨v3, rfl, f3, x3, y3⟩ := q29
  rw [eT2] at x3 y3
  have F3 := F2.tr f3
  have H3 := F3.St H
  have SP3 := F3.Sp SP
  have BkR3 := F3.rr RA
  have eT3 : h29.2.1 3 = h.2.1 3 := F3.2 3 (by decide)
  refine ju_istore3 (pc := 32) (lv' := [some _, some _, some _, some _, none]) d2007_32 rfl rfl ?_
  refine je_aload0 (pc := 33) d2007_33 rfl ?_
  refine ju_getr (pc := 34) (b := 2) d2007_34 jF_2_18 rfl (sK4 H3) (sR4_0 H3) ?_
  refine ju_geti (pc := 37) d2007_37 jF_2_102 rfl (sK2 H3) ?_
  refine ju_eqi (v := (p2A (h.2.1 3) N s).1) x3.2.1 ?_
  refine je_ifne (pc := 40) 69 d2007_40 (by decide) (fun c40 => ?_) (fun c40 => ?_)
  · refine je_ret (pc := 69) d2007_69 rfl ?_
    rw [pt2_b c40]
    have xx : txS _ N (p2A (h.2.1 3) N s) := x3
    exact ⟨rfl, F3.sa, xx, R.of (fun b b1 b2 => F3.2 b (by omega))⟩
  · have b1 : ((p2a (h.2.1 3) N s)).2 ≤ N := am_N hs hN
    have b2 : ((p2b (h.2.1 3) N s)).2 ≤ N := am_N b1 hN
    have k2 := am_ok c40 b2 hN
    have k1 := am_ok k2.1 b1 hN
    have k0 := am_ok k1.1 hs hN
    obtain rfl := y1 k1.1
    obtain rfl := y2 k2.1
    obtain rfl := y3 c40
    have g0 := am_rg (lo := 0) (hi := 99) k1.1 hs hN (by decide) (by decide)
    have g1 := am_rg (lo := amV (h.2.1 3) N s.2) (hi := 99) k2.1 b1 hN k0.2.1 (by decide)
    refine je_iload1 (pc := 43) d2007_43 rfl ?_
    refine ju_istore (pc := 44) (lv' := [some _, some _, some _, some _, some _]) d2007_44 rfl rfl ?_
    refine je_loop (σ := Unit) ((amV (h.2.1 3) N (p2a (h.2.1 3) N s).2) + 1 - (amV (h.2.1 3) N s.2)) (fun k xx => [some (.ref 4), some (.int (nI (amV (h.2.1 3) N s.2))), some (.int (nI (amV (h.2.1 3) N (p2a (h.2.1 3) N s).2))), some (.int (nI (amV (h.2.1 3) N (p2b (h.2.1 3) N s).2))), some (.int (nI ((amV (h.2.1 3) N s.2) + k)))]) (fun k _ h' => fC (fun b => b = a + 1) h29 h' ∧ ∀ j, h'.2.1 (a + 1) j = if amV (h.2.1 3) N s.2 ≤ j ∧ j < amV (h.2.1 3) N s.2 + k then nI (amV (h.2.1 3) N (p2b (h.2.1 3) N s).2) else h.2.1 (a + 1) j) (fun k xx h' hk e kk => ?_) (fun xx h' e => ?_) (0) () _ (by omega) ⟨fC.rf, fun j => by rw [if_neg (by omega), F3.2 (a + 1) (by omega)]⟩
    · obtain ⟨e1, e2⟩ := e
      have HJ := e1.St H3
      have SPJ := e1.Sp SP3
      have RJ := e1.rr BkR3
      refine je_iload (pc := 46) d2007_46 rfl ?_
      refine je_iload2 (pc := 48) d2007_48 rfl ?_
      refine jn_icgt (pc := 49) (a := ((amV (h.2.1 3) N s.2) + k)) (b := (amV (h.2.1 3) N (p2a (h.2.1 3) N s).2)) 69 d2007_49 (by decide) (by omega) (by omega) (fun c49 => by exfalso; omega) (fun c49 => ?_)
      refine je_aload0 (pc := 52) d2007_52 rfl ?_
      refine ju_getr (pc := 53) (b := a) d2007_53 jF_2_12 rfl (sK4 HJ) RJ ?_
      refine ju_getr (pc := 56) (b := (a + 1)) d2007_56 jF_2_117 rfl SPJ.1.1 SPJ.1.2.1.2 ?_
      refine je_iload (pc := 59) d2007_59 rfl ?_
      refine je_iload3 (pc := 61) d2007_61 rfl ?_
      refine ju_iast (pc := 62) (jn := ((amV (h.2.1 3) N s.2) + k)) d2007_62 SPJ.1.2.1.1 (vp_in_nI (by omega) (by decide)) (nI_clamp (by omega)) ?_
      refine ju_incN (pc := 63) (v := nI (((amV (h.2.1 3) N s.2) + k) + 1)) (lv' := [some _, some _, some _, some _, some _]) d2007_63 rfl (nI_1 ((amV (h.2.1 3) N s.2) + k)) rfl ?_
      refine je_goto (pc := 66) 46 d2007_66 (by decide) ?_
      refine kk () _ ⟨e1.wI rfl, fun j => ?_⟩
      rw [wI_at]
      by_cases z : j = (amV (h.2.1 3) N s.2) + k
      · rw [z, jx_up_self, if_pos (by omega)]
      · rw [jx_up_ne _ _ z, e2 j]
        by_cases y : (amV (h.2.1 3) N s.2) ≤ j ∧ j < (amV (h.2.1 3) N s.2) + k
        · rw [if_pos y, if_pos (by omega)]
        · rw [if_neg y, if_neg (by omega)]
    · obtain ⟨e1, e2⟩ := e
      have HJ := e1.St H3
      have SPJ := e1.Sp SP3
      have RJ := e1.rr BkR3
      refine je_iload (pc := 46) d2007_46 rfl ?_
      refine je_iload2 (pc := 48) d2007_48 rfl ?_
      refine jn_icgt (pc := 49) (a := ((amV (h.2.1 3) N s.2) + ((amV (h.2.1 3) N (p2a (h.2.1 3) N s).2) + 1 - (amV (h.2.1 3) N s.2)))) (b := (amV (h.2.1 3) N (p2a (h.2.1 3) N s).2)) 69 d2007_49 (by decide) (by omega) (by omega) (fun c49 => ?_) (fun c49 => by exfalso; omega)
      refine je_ret (pc := 69) d2007_69 rfl ?_
      rw [pt2_o c40]
      have xx : txS h29 N (p2A (h.2.1 3) N s) := x3
      exact ⟨rfl, F3.sa.tr (e1.mo (fun b z => Or.inr (by omega))), xx.of (e1.2 2 (by omega)) (e1.2 3 (by omega)), rS_2 R (fun b b1 b2 b3 => (e1.2 b b3).trans (F3.2 b (by omega))) (fun j hj => by
        rw [e2 j]
        by_cases y : (amV (h.2.1 3) N s.2) ≤ j ∧ j ≤ (amV (h.2.1 3) N (p2a (h.2.1 3) N s).2)
        · rw [if_pos y, if_pos (by omega)]
        · rw [if_neg y, if_neg (by omega)]; exact R.2.1 j hj)⟩
set_option maxHeartbeats 2000000 in
theorem t_Sr_readBaked (d : Nat) {bc bs : Nat} {h : jx_H} {N a : Nat} {s : Int32 × Nat} {S : MS} (H : jx_St h) (q : txS h N s) (hs : s.2 ≤ N) (hN : N ≤ 400) (hT : bytT (h.2.1 3) N) (ha : 304 ≤ a) (SP : jx_Sp h a) (RA : h.2.2.2 4 1 = some a) (R : rS h.2.1 a S) (W : S.1.1 ≤ 10 ∧ S.1.2.1 ≤ 8 ∧ S.1.2.2.1 ≤ 8) : jx_Tr (d + 6) bc bs 2008 [.ref 4] h (fun r h' => r = none ∧ fC (stA a) h h' ∧ txS h' N (ptS (h.2.1 3) N 3 s S).1 ∧ rS h'.2.1 a (ptS (h.2.1 3) N 3 s S).2) := by
  refine jx_tr jM_Sr_readBaked rfl rfl (lv := [some (.ref 4), none]) rfl ?_
  refine je_aload0 (pc := 0) d2008_0 rfl ?_
  refine ju_getr (pc := 1) (b := 2) d2008_1 jF_2_18 rfl (sK4 H) (sR4_0 H) ?_
  refine je_iconst (pc := 4) (v := 0) d2008_4 rfl ?_
  refine je_aload0 (pc := 5) d2008_5 rfl ?_
  refine ju_getr (pc := 6) (b := a) d2008_6 jF_2_12 rfl (sK4 H) RA ?_
  refine ju_geti (pc := 9) d2008_9 jF_2_105 rfl SP.1.1 ?_
  refine ju_eqi (v := nI S.1.1) (by rw [(fC.rf (A := fun b => b = 2) (h := h)).2 a (by omega)]; exact R.1.1) ?_
  refine je_iconst (pc := 12) (v := 1) d2008_12 rfl ?_
  refine je_isub (pc := 13) d2008_13 ?_
  refine ju_callv (pc := 14) (as := [_, _]) d2008_14 jL_2_98 jM_Tx_takeNumber rfl (by decide) (sK2 H) rfl (by exact Nat.le_of_ble_eq_true rfl) (t_Tx_takeNumber (d + 0) (N := N) (s := s) 0 (hiN S.1.1) H q hN hT) (fun r14 h14 q14 => ?_)
  obtain ⟨v1, rfl, f1, x1, y1⟩ := q14
  have F1 := f1
  have H1 := F1.St H
  have SP1 := F1.Sp SP
  have BkR1 := F1.rr RA
  have eT1 : h14.2.1 3 = h.2.1 3 := F1.2 3 (by decide)
  refine ju_istore1 (pc := 17) (lv' := [some _, some _]) d2008_17 rfl rfl ?_
  refine je_aload0 (pc := 18) d2008_18 rfl ?_
  refine ju_getr (pc := 19) (b := 2) d2008_19 jF_2_18 rfl (sK4 H1) (sR4_0 H1) ?_
  refine ju_geti (pc := 22) d2008_22 jF_2_102 rfl (sK2 H1) ?_
  refine ju_eqi (v := (p1a (h.2.1 3) N S.1.1 s).1) x1.2.1 ?_
  refine je_ifne (pc := 25) 46 d2008_25 (by decide) (fun c25 => ?_) (fun c25 => ?_)
  · refine je_ret (pc := 46) d2008_46 rfl ?_
    rw [pt3_b c25]
    have xx : txS _ N (p1a (h.2.1 3) N S.1.1 s) := x1
    exact ⟨rfl, F1.sa, xx, R.of (fun b b1 b2 => F1.2 b (by omega))⟩
  · have k0 := am_ok c25 hs hN
    obtain rfl := y1 c25
    refine je_aload0 (pc := 28) d2008_28 rfl ?_
    refine ju_getr (pc := 29) (b := a) d2008_29 jF_2_12 rfl (sK4 H1) BkR1 ?_
    refine ju_getr (pc := 32) (b := (a + 8)) d2008_32 jF_2_27 rfl SP1.1.1 SP1.1.2.2.2.2.2.2.2.2.2 ?_
    refine je_dup (pc := 35) d2008_35 rfl ?_
    refine ju_geti (pc := 36) d2008_36 jF_2_120 rfl SP1.1.2.2.2.2.2.2.2.2.1 ?_
    refine ju_eqi (v := S.2.2.2.2.2.2.1) (by rw [F1.2 (a + 8) (by omega)]; exact R.2.2.2.2.2.2.2.2.2.1) ?_
    refine je_iconst (pc := 39) (v := 1) d2008_39 rfl ?_
    refine je_iload1 (pc := 40) d2008_40 rfl ?_
    refine je_ishl (pc := 41) d2008_41 ?_
    refine je_ior (pc := 42) d2008_42 ?_
    refine ju_puti (pc := 43) d2008_43 jF_2_120 rfl SP1.1.2.2.2.2.2.2.2.2.1 ?_
    refine je_ret (pc := 46) d2008_46 rfl ?_
    rw [pt3_o c25]
    have xx : txS h14 N (p1a (h.2.1 3) N S.1.1 s) := x1
    exact ⟨rfl, F1.sa.wI (Or.inr (by omega)), xx.of (by rw [wI_ne _ _ _ (by omega)]) (by rw [wI_ne _ _ _ (by omega)]), rS_3 R (fun b b1 b2 b3 => by rw [wI_ne _ _ _ b3]; exact F1.2 b (by omega)) (by rw [wI_at, F1.2 (a + 8) (by omega)])⟩
set_option maxHeartbeats 4000000 in
theorem t_Sr_readVillage (d : Nat) {bc bs : Nat} {h : jx_H} {N a : Nat} {s : Int32 × Nat} {S : MS} (H : jx_St h) (q : txS h N s) (hs : s.2 ≤ N) (hN : N ≤ 400) (hT : bytT (h.2.1 3) N) (ha : 304 ≤ a) (SP : jx_Sp h a) (RA : h.2.2.2 4 1 = some a) (R : rS h.2.1 a S) (W : S.1.1 ≤ 10 ∧ S.1.2.1 ≤ 8 ∧ S.1.2.2.1 ≤ 8) (V8 : s.1 = 0 → S.1.2.1 < 8) : jx_Tr (d + 6) bc bs 2009 [.ref 4] h (fun r h' => r = none ∧ fC (stA a) h h' ∧ txS h' N (ptS (h.2.1 3) N 4 s S).1 ∧ rS h'.2.1 a (ptS (h.2.1 3) N 4 s S).2) := by
  refine jx_tr jM_Sr_readVillage rfl rfl (lv := [some (.ref 4), none, none, none, none]) rfl ?_
  refine je_aload0 (pc := 0) d2009_0 rfl ?_
  refine ju_getr (pc := 1) (b := 2) d2009_1 jF_2_18 rfl (sK4 H) (sR4_0 H) ?_
  refine je_iconst (pc := 4) (v := 0) d2009_4 rfl ?_
  refine je_aload0 (pc := 5) d2009_5 rfl ?_
  refine ju_getr (pc := 6) (b := a) d2009_6 jF_2_12 rfl (sK4 H) RA ?_
  refine ju_geti (pc := 9) d2009_9 jF_2_105 rfl SP.1.1 ?_
  refine ju_eqi (v := nI S.1.1) (by rw [(fC.rf (A := fun b => b = 2) (h := h)).2 a (by omega)]; exact R.1.1) ?_
  refine je_iconst (pc := 12) (v := 1) d2009_12 rfl ?_
  refine je_isub (pc := 13) d2009_13 ?_
  refine ju_callv (pc := 14) (as := [_, _]) d2009_14 jL_2_98 jM_Tx_takeNumber rfl (by decide) (sK2 H) rfl (by exact Nat.le_of_ble_eq_true rfl) (t_Tx_takeNumber (d + 0) (N := N) (s := s) 0 (hiN S.1.1) H q hN hT) (fun r14 h14 q14 => ?_)
  obtain ⟨v1, rfl, f1, x1, y1⟩ := q14
  have F1 := f1
  have H1 := F1.St H
  have SP1 := F1.Sp SP
  have BkR1 := F1.rr RA
  have eT1 : h14.2.1 3 = h.2.1 3 := F1.2 3 (by decide)
  refine ju_istore1 (pc := 17) (lv' := [some _, some _, none, none, none]) d2009_17 rfl rfl ?_
  refine je_aload0 (pc := 18) d2009_18 rfl ?_
  refine ju_getr (pc := 19) (b := 2) d2009_19 jF_2_18 rfl (sK4 H1) (sR4_0 H1) ?_
  refine je_iconst (pc := 22) (v := 0) d2009_22 rfl ?_
  refine je_bipush (pc := 23) (v := 40) d2009_23 rfl ?_
  refine ju_callv (pc := 25) (as := [_, _]) d2009_25 jL_2_98 jM_Tx_takeNumber rfl (by decide) (sK2 H1) rfl (by exact Nat.le_of_ble_eq_true rfl) (t_Tx_takeNumber (d + 0) (N := N) (s := (p1a (h.2.1 3) N S.1.1 s)) 0 40 H1 x1 hN (by rw [eT1]; exact hT)) (fun r25 h25 q25 => ?_)
  obtain ⟨v2, rfl, f2, x2, y2⟩ := q25
  rw [eT1] at x2 y2
  have F2 := F1.tr f2
  have H2 := F2.St H
  have SP2 := F2.Sp SP
  have BkR2 := F2.rr RA
  have eT2 : h25.2.1 3 = h.2.1 3 := F2.2 3 (by decide)
  refine je_bipush (pc := 28) (v := 20) d2009_28 rfl ?_
  refine je_isub (pc := 30) d2009_30 ?_
  refine ju_istore2 (pc := 31) (lv' := [some _, some _, some _, none, none]) d2009_31 rfl rfl ?_
  refine je_aload0 (pc := 32) d2009_32 rfl ?_
  refine ju_getr (pc := 33) (b := 2) d2009_33 jF_2_18 rfl (sK4 H2) (sR4_0 H2) ?_
  refine je_iconst (pc := 36) (v := 0) d2009_36 rfl ?_
  refine je_iconst (pc := 37) (v := 1) d2009_37 rfl ?_
  refine ju_callv (pc := 38) (as := [_, _]) d2009_38 jL_2_98 jM_Tx_takeNumber rfl (by decide) (sK2 H2) rfl (by exact Nat.le_of_ble_eq_true rfl) (t_Tx_takeNumber (d + 0) (N := N) (s := (p1b (h.2.1 3) N S.1.1 s)) 0 1 H2 x2 hN (by rw [eT2]; exact hT)) (fun r38 h38 q38 => ?_)
  obtain ⟨v3, rfl, f3, x3, y3⟩ := q38
  rw [eT2] at x3 y3
  have F3 := F2.tr f3
  have H3 := F3.St H
  have SP3 := F3.Sp SP
  have BkR3 := F3.rr RA
  have eT3 : h38.2.1 3 = h.2.1 3 := F3.2 3 (by decide)
  refine ju_istore3 (pc := 41) (lv' := [some _, some _, some _, some _, none]) d2009_41 rfl rfl ?_
  refine je_aload0 (pc := 42) d2009_42 rfl ?_
  refine ju_getr (pc := 43) (b := 2) d2009_43 jF_2_18 rfl (sK4 H3) (sR4_0 H3) ?_
  refine ju_geti (pc := 46) d2009_46 jF_2_102 rfl (sK2 H3) ?_
  refine ju_eqi (v := (p4A (h.2.1 3) N S.1.1 s).1) x3.2.1 ?_
  refine je_ifne (pc := 49) 123 d2009_49 (by decide) (fun c49 => ?_) (fun c49 => ?_)
  · refine je_ret (pc := 123) d2009_123 rfl ?_
    rw [pt4_b c49]
    have xx : txS _ N (p4A (h.2.1 3) N S.1.1 s) := x3
    exact ⟨rfl, F3.sa, xx, R.of (fun b b1 b2 => F3.2 b (by omega))⟩
  · have b1 : ((p1a (h.2.1 3) N S.1.1 s)).2 ≤ N := am_N hs hN
    have b2 : ((p1b (h.2.1 3) N S.1.1 s)).2 ≤ N := am_N b1 hN
    have k2 := am_ok c49 b2 hN
    have k1 := am_ok k2.1 b1 hN
    have k0 := am_ok k1.1 hs hN
    obtain rfl := y1 k1.1
    obtain rfl := y2 k2.1
    obtain rfl := y3 c49
    have hm := am_hi k1.1 hs hN (by omega)
    have v8 := V8 k0.1
    refine je_aload0 (pc := 52) d2009_52 rfl ?_
    refine ju_getr (pc := 53) (b := a) d2009_53 jF_2_12 rfl (sK4 H3) BkR3 ?_
    refine ju_geti (pc := 56) d2009_56 jF_2_48 rfl SP3.1.1 ?_
    refine ju_eqi (v := nI S.1.2.1) (by rw [F3.2 a (by omega)]; exact R.1.2.2.1) ?_
    refine ju_istore (pc := 59) (lv' := [some _, some _, some _, some _, some _]) d2009_59 rfl rfl ?_
    refine je_aload0 (pc := 61) d2009_61 rfl ?_
    refine ju_getr (pc := 62) (b := a) d2009_62 jF_2_12 rfl (sK4 H3) BkR3 ?_
    refine ju_getr (pc := 65) (b := (a + 2)) d2009_65 jF_2_122 rfl SP3.1.1 SP3.1.2.2.1.2 ?_
    refine je_iload (pc := 68) d2009_68 rfl ?_
    refine je_iload1 (pc := 70) d2009_70 rfl ?_
    refine ju_iast (pc := 71) (jn := (S.1.2.1)) d2009_71 SP3.1.2.2.1.1 (vp_in_nI (by omega) (by decide)) (nI_clamp (by omega)) ?_
    refine je_aload0 (pc := 72) d2009_72 rfl ?_
    refine ju_getr (pc := 73) (b := a) d2009_73 jF_2_12 rfl (sK4 H3.wI) BkR3 ?_
    refine ju_getr (pc := 76) (b := (a + 3)) d2009_76 jF_2_125 rfl SP3.wI.1.1 SP3.wI.1.2.2.2.1.2 ?_
    refine je_iload (pc := 79) d2009_79 rfl ?_
    refine je_iload2 (pc := 81) d2009_81 rfl ?_
    refine ju_iast (pc := 82) (jn := (S.1.2.1)) d2009_82 SP3.wI.1.2.2.2.1.1 (vp_in_nI (by omega) (by decide)) (nI_clamp (by omega)) ?_
    refine je_aload0 (pc := 83) d2009_83 rfl ?_
    refine ju_getr (pc := 84) (b := a) d2009_84 jF_2_12 rfl (sK4 H3.wI.wI) BkR3 ?_
    refine ju_getr (pc := 87) (b := (a + 4)) d2009_87 jF_2_128 rfl SP3.wI.wI.1.1 SP3.wI.wI.1.2.2.2.2.1.2 ?_
    refine je_iload (pc := 90) d2009_90 rfl ?_
    refine je_iload3 (pc := 92) d2009_92 rfl ?_
    refine ju_iast (pc := 93) (jn := (S.1.2.1)) d2009_93 SP3.wI.wI.1.2.2.2.2.1.1 (vp_in_nI (by omega) (by decide)) (nI_clamp (by omega)) ?_
    refine je_aload0 (pc := 94) d2009_94 rfl ?_
    refine ju_getr (pc := 95) (b := a) d2009_95 jF_2_12 rfl (sK4 H3.wI.wI.wI) BkR3 ?_
    refine ju_getr (pc := 98) (b := (a + 5)) d2009_98 jF_2_131 rfl SP3.wI.wI.wI.1.1 SP3.wI.wI.wI.1.2.2.2.2.2.1.2 ?_
    refine je_iload1 (pc := 101) d2009_101 rfl ?_
    refine je_dup2 (pc := 102) d2009_102 rfl rfl ?_
    refine ju_iald (pc := 103) (jn := (amV (h.2.1 3) N s.2)) d2009_103 SP3.wI.wI.wI.1.2.2.2.2.2.1.1 (vp_in_nI (by omega) (by decide)) (nI_clamp (by omega)) ?_
    refine ju_eqi (v := h.2.1 (a + 5) (amV (h.2.1 3) N s.2)) (by rw [wI_ne _ _ _ (by omega), wI_ne _ _ _ (by omega), wI_ne _ _ _ (by omega), F3.2 (a + 5) (by omega)]) ?_
    refine je_iconst (pc := 104) (v := 1) d2009_104 rfl ?_
    refine je_iload (pc := 105) d2009_105 rfl ?_
    refine je_ishl (pc := 107) d2009_107 ?_
    refine je_ior (pc := 108) d2009_108 ?_
    refine ju_iast (pc := 109) (jn := (amV (h.2.1 3) N s.2)) d2009_109 SP3.wI.wI.wI.1.2.2.2.2.2.1.1 (vp_in_nI (by omega) (by decide)) (nI_clamp (by omega)) ?_
    refine je_aload0 (pc := 110) d2009_110 rfl ?_
    refine ju_getr (pc := 111) (b := a) d2009_111 jF_2_12 rfl (sK4 H3.wI.wI.wI.wI) BkR3 ?_
    refine je_dup (pc := 114) d2009_114 rfl ?_
    refine ju_geti (pc := 115) d2009_115 jF_2_48 rfl SP3.wI.wI.wI.wI.1.1 ?_
    refine ju_eqi (v := nI S.1.2.1) (by rw [wI_ne _ _ _ (by omega), wI_ne _ _ _ (by omega), wI_ne _ _ _ (by omega), wI_ne _ _ _ (by omega), F3.2 a (by omega)]; exact R.1.2.2.1) ?_
    refine je_iconst (pc := 118) (v := 1) d2009_118 rfl ?_
    refine je_iadd (pc := 119) d2009_119 ?_
    refine ju_eqi (v := nI ((S.1.2.1) + 1)) (nI_add (S.1.2.1) 1) ?_
    refine ju_puti (pc := 120) d2009_120 jF_2_48 rfl SP3.wI.wI.wI.wI.1.1 ?_
    refine je_ret (pc := 123) d2009_123 rfl ?_
    rw [pt4_o c49]
    have xx : txS h38 N (p4A (h.2.1 3) N S.1.1 s) := x3
    exact ⟨rfl, ((((F3.sa.wI (Or.inr (by omega))).wI (Or.inr (by omega))).wI (Or.inr (by omega))).wI (Or.inr (by omega))).wI (Or.inr (by omega)), xx.of (by rw [wI_ne _ _ _ (by omega), wI_ne _ _ _ (by omega), wI_ne _ _ _ (by omega), wI_ne _ _ _ (by omega), wI_ne _ _ _ (by omega)]) (by rw [wI_ne _ _ _ (by omega), wI_ne _ _ _ (by omega), wI_ne _ _ _ (by omega), wI_ne _ _ _ (by omega), wI_ne _ _ _ (by omega)]), rS_4 R (by omega) rfl (fun b b1 b2 b3 b4 b5 b6 b7 => by rw [wI_ne _ _ _ b3, wI_ne _ _ _ b7, wI_ne _ _ _ b6, wI_ne _ _ _ b5, wI_ne _ _ _ b4]; exact F3.2 b (by omega)) (by rw [wI_at, wI_ne _ _ _ (by omega), wI_ne _ _ _ (by omega), wI_ne _ _ _ (by omega), wI_ne _ _ _ (by omega), F3.2 a (by omega)]) (by rw [wI_ne _ _ _ (by omega), wI_ne _ _ _ (by omega), wI_ne _ _ _ (by omega), wI_ne _ _ _ (by omega), wI_at, F3.2 (a + 2) (by omega)]) (by rw [wI_ne _ _ _ (by omega), wI_ne _ _ _ (by omega), wI_ne _ _ _ (by omega), wI_at, wI_ne _ _ _ (by omega), F3.2 (a + 3) (by omega)]) (by rw [wI_ne _ _ _ (by omega), wI_ne _ _ _ (by omega), wI_at, wI_ne _ _ _ (by omega), wI_ne _ _ _ (by omega), F3.2 (a + 4) (by omega)]) (by rw [wI_ne _ _ _ (by omega), wI_at, wI_ne _ _ _ (by omega), wI_ne _ _ _ (by omega), wI_ne _ _ _ (by omega), F3.2 (a + 5) (by omega)])⟩
set_option maxHeartbeats 4000000 in
theorem t_Sr_readWant (d : Nat) {bc bs : Nat} {h : jx_H} {N a : Nat} {s : Int32 × Nat} {S : MS} (H : jx_St h) (q : txS h N s) (hs : s.2 ≤ N) (hN : N ≤ 400) (hT : bytT (h.2.1 3) N) (ha : 304 ≤ a) (SP : jx_Sp h a) (RA : h.2.2.2 4 1 = some a) (R : rS h.2.1 a S) (W : S.1.1 ≤ 10 ∧ S.1.2.1 ≤ 8 ∧ S.1.2.2.1 ≤ 8) (V8 : s.1 = 0 → S.1.2.2.1 < 8) : jx_Tr (d + 6) bc bs 2010 [.ref 4] h (fun r h' => r = none ∧ fC (stA a) h h' ∧ txS h' N (ptS (h.2.1 3) N 5 s S).1 ∧ rS h'.2.1 a (ptS (h.2.1 3) N 5 s S).2) := by
  refine jx_tr jM_Sr_readWant rfl rfl (lv := [some (.ref 4), none, none]) rfl ?_
  refine je_aload0 (pc := 0) d2010_0 rfl ?_
  refine ju_getr (pc := 1) (b := 2) d2010_1 jF_2_18 rfl (sK4 H) (sR4_0 H) ?_
  refine je_iconst (pc := 4) (v := 0) d2010_4 rfl ?_
  refine je_aload0 (pc := 5) d2010_5 rfl ?_
  refine ju_getr (pc := 6) (b := a) d2010_6 jF_2_12 rfl (sK4 H) RA ?_
  refine ju_geti (pc := 9) d2010_9 jF_2_48 rfl SP.1.1 ?_
  refine ju_eqi (v := nI S.1.2.1) (by rw [(fC.rf (A := fun b => b = 2) (h := h)).2 a (by omega)]; exact R.1.2.2.1) ?_
  refine je_iconst (pc := 12) (v := 1) d2010_12 rfl ?_
  refine je_isub (pc := 13) d2010_13 ?_
  refine ju_callv (pc := 14) (as := [_, _]) d2010_14 jL_2_98 jM_Tx_takeNumber rfl (by decide) (sK2 H) rfl (by exact Nat.le_of_ble_eq_true rfl) (t_Tx_takeNumber (d + 0) (N := N) (s := s) 0 (hiN S.1.2.1) H q hN hT) (fun r14 h14 q14 => ?_)
  obtain ⟨v1, rfl, f1, x1, y1⟩ := q14
  have F1 := f1
  have H1 := F1.St H
  have SP1 := F1.Sp SP
  have BkR1 := F1.rr RA
  have eT1 : h14.2.1 3 = h.2.1 3 := F1.2 3 (by decide)
  refine ju_istore1 (pc := 17) (lv' := [some _, some _, none]) d2010_17 rfl rfl ?_
  refine je_aload0 (pc := 18) d2010_18 rfl ?_
  refine ju_getr (pc := 19) (b := 2) d2010_19 jF_2_18 rfl (sK4 H1) (sR4_0 H1) ?_
  refine je_iconst (pc := 22) (v := 0) d2010_22 rfl ?_
  refine je_iconst (pc := 23) (v := 1) d2010_23 rfl ?_
  refine ju_callv (pc := 24) (as := [_, _]) d2010_24 jL_2_98 jM_Tx_takeNumber rfl (by decide) (sK2 H1) rfl (by exact Nat.le_of_ble_eq_true rfl) (t_Tx_takeNumber (d + 0) (N := N) (s := (p1a (h.2.1 3) N S.1.2.1 s)) 0 1 H1 x1 hN (by rw [eT1]; exact hT)) (fun r24 h24 q24 => ?_)
  obtain ⟨v2, rfl, f2, x2, y2⟩ := q24
  rw [eT1] at x2 y2
  have F2 := F1.tr f2
  have H2 := F2.St H
  have SP2 := F2.Sp SP
  have BkR2 := F2.rr RA
  have eT2 : h24.2.1 3 = h.2.1 3 := F2.2 3 (by decide)
  refine ju_istore2 (pc := 27) (lv' := [some _, some _, some _]) d2010_27 rfl rfl ?_
  refine je_aload0 (pc := 28) d2010_28 rfl ?_
  refine ju_getr (pc := 29) (b := 2) d2010_29 jF_2_18 rfl (sK4 H2) (sR4_0 H2) ?_
  refine ju_geti (pc := 32) d2010_32 jF_2_102 rfl (sK2 H2) ?_
  refine ju_eqi (v := (p5A (h.2.1 3) N S.1.2.1 s).1) x2.2.1 ?_
  refine je_ifne (pc := 35) 83 d2010_35 (by decide) (fun c35 => ?_) (fun c35 => ?_)
  · refine je_ret (pc := 83) d2010_83 rfl ?_
    rw [pt5_b c35]
    have xx : txS _ N (p5A (h.2.1 3) N S.1.2.1 s) := x2
    exact ⟨rfl, F2.sa, xx, R.of (fun b b1 b2 => F2.2 b (by omega))⟩
  · have b1 : ((p1a (h.2.1 3) N S.1.2.1 s)).2 ≤ N := am_N hs hN
    have k1 := am_ok c35 b1 hN
    have k0 := am_ok k1.1 hs hN
    obtain rfl := y1 k1.1
    obtain rfl := y2 c35
    have v8 := V8 k0.1
    refine je_aload0 (pc := 38) d2010_38 rfl ?_
    refine ju_getr (pc := 39) (b := a) d2010_39 jF_2_12 rfl (sK4 H2) BkR2 ?_
    refine ju_getr (pc := 42) (b := (a + 6)) d2010_42 jF_2_134 rfl SP2.1.1 SP2.1.2.2.2.2.2.2.1.2 ?_
    refine je_aload0 (pc := 45) d2010_45 rfl ?_
    refine ju_getr (pc := 46) (b := a) d2010_46 jF_2_12 rfl (sK4 H2) BkR2 ?_
    refine ju_geti (pc := 49) d2010_49 jF_2_52 rfl SP2.1.1 ?_
    refine ju_eqi (v := nI S.1.2.2.1) (by rw [F2.2 a (by omega)]; exact R.1.2.2.2) ?_
    refine je_iload1 (pc := 52) d2010_52 rfl ?_
    refine ju_iast (pc := 53) (jn := (S.1.2.2.1)) d2010_53 SP2.1.2.2.2.2.2.2.1.1 (vp_in_nI (by omega) (by decide)) (nI_clamp (by omega)) ?_
    refine je_aload0 (pc := 54) d2010_54 rfl ?_
    refine ju_getr (pc := 55) (b := a) d2010_55 jF_2_12 rfl (sK4 H2.wI) BkR2 ?_
    refine ju_getr (pc := 58) (b := (a + 7)) d2010_58 jF_2_137 rfl SP2.wI.1.1 SP2.wI.1.2.2.2.2.2.2.2.1.2 ?_
    refine je_aload0 (pc := 61) d2010_61 rfl ?_
    refine ju_getr (pc := 62) (b := a) d2010_62 jF_2_12 rfl (sK4 H2.wI) BkR2 ?_
    refine ju_geti (pc := 65) d2010_65 jF_2_52 rfl SP2.wI.1.1 ?_
    refine ju_eqi (v := nI S.1.2.2.1) (by rw [wI_ne _ _ _ (by omega), F2.2 a (by omega)]; exact R.1.2.2.2) ?_
    refine je_iload2 (pc := 68) d2010_68 rfl ?_
    refine ju_iast (pc := 69) (jn := (S.1.2.2.1)) d2010_69 SP2.wI.1.2.2.2.2.2.2.2.1.1 (vp_in_nI (by omega) (by decide)) (nI_clamp (by omega)) ?_
    refine je_aload0 (pc := 70) d2010_70 rfl ?_
    refine ju_getr (pc := 71) (b := a) d2010_71 jF_2_12 rfl (sK4 H2.wI.wI) BkR2 ?_
    refine je_dup (pc := 74) d2010_74 rfl ?_
    refine ju_geti (pc := 75) d2010_75 jF_2_52 rfl SP2.wI.wI.1.1 ?_
    refine ju_eqi (v := nI S.1.2.2.1) (by rw [wI_ne _ _ _ (by omega), wI_ne _ _ _ (by omega), F2.2 a (by omega)]; exact R.1.2.2.2) ?_
    refine je_iconst (pc := 78) (v := 1) d2010_78 rfl ?_
    refine je_iadd (pc := 79) d2010_79 ?_
    refine ju_eqi (v := nI ((S.1.2.2.1) + 1)) (nI_add (S.1.2.2.1) 1) ?_
    refine ju_puti (pc := 80) d2010_80 jF_2_52 rfl SP2.wI.wI.1.1 ?_
    refine je_ret (pc := 83) d2010_83 rfl ?_
    rw [pt5_o c35]
    have xx : txS h24 N (p5A (h.2.1 3) N S.1.2.1 s) := x2
    exact ⟨rfl, ((F2.sa.wI (Or.inr (by omega))).wI (Or.inr (by omega))).wI (Or.inr (by omega)), xx.of (by rw [wI_ne _ _ _ (by omega), wI_ne _ _ _ (by omega), wI_ne _ _ _ (by omega)]) (by rw [wI_ne _ _ _ (by omega), wI_ne _ _ _ (by omega), wI_ne _ _ _ (by omega)]), rS_5 R rfl (fun b b1 b2 b3 b4 b5 => by rw [wI_ne _ _ _ b3, wI_ne _ _ _ b5, wI_ne _ _ _ b4]; exact F2.2 b (by omega)) (by rw [wI_at, wI_ne _ _ _ (by omega), wI_ne _ _ _ (by omega), F2.2 a (by omega)]) (by rw [wI_ne _ _ _ (by omega), wI_ne _ _ _ (by omega), wI_at, F2.2 (a + 6) (by omega)]) (by rw [wI_ne _ _ _ (by omega), wI_at, wI_ne _ _ _ (by omega), F2.2 (a + 7) (by omega)])⟩
