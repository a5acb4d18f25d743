/-! tape: end, feed -/
/-- when only the tape changes -/
def keepT (h h' : jx_H) : Prop := (h'.1 = h.1 ∧ h'.2.2.2 = h.2.2.2) ∧ (∀ b, b ≠ 2 → b ≠ 3 → b ≠ 280 → b ≠ 253 → h'.2.1 b = h.2.1 b) ∧ ∀ k, k ≠ 27 → h'.2.1 253 k = h.2.1 253 k
theorem InvX.tape {n : Nat} {h h' : jx_H} {t t' nr : Nat} {rs : Nat → MR} {X : MW} {Y : Nat → MW} (q : InvX n h t nr rs X Y) (e : keepT h h') (ht : tapeOK h' t') : InvX (n + 1) h' t' nr rs X Y := by
  obtain ⟨⟨e1, e2⟩, e3, e4⟩ := e
  obtain ⟨q1, ⟨q2, q2'⟩, -, ⟨r1, r2, r3, r4⟩, q5, q6, q7, q8, q9⟩ := q.up (Nat.le_succ n)
  have hg : ∀ a, 254 ≤ a → a ≤ 303 → a ≠ 280 → gN h' a = gN h a := by
    intro a h1 h2 h3
    funext j
    unfold gN
    rw [e4 51 (by omega), e3 a (by omega) (by omega) h3 (by omega)]
  have hm : ∀ {g g' : Nat → Nat → Int32} {X : MW}, mW g X → (∀ a, 254 ≤ a → a ≤ 303 → a ≠ 280 → g' a = g a) → mW g' X := by
    intro g g' X r e
    unfold mW mSt mLa at r ⊢
    rw [e 254 (by omega) (by omega) (by omega), e 255 (by omega) (by omega) (by omega), e 256 (by omega) (by omega) (by omega), e 257 (by omega) (by omega) (by omega), e 258 (by omega) (by omega) (by omega), e 259 (by omega) (by omega) (by omega), e 260 (by omega) (by omega) (by omega), e 261 (by omega) (by omega) (by omega), e 262 (by omega) (by omega) (by omega), e 263 (by omega) (by omega) (by omega), e 264 (by omega) (by omega) (by omega), e 265 (by omega) (by omega) (by omega), e 266 (by omega) (by omega) (by omega), e 267 (by omega) (by omega) (by omega), e 268 (by omega) (by omega) (by omega), e 269 (by omega) (by omega) (by omega), e 292 (by omega) (by omega) (by omega), e 293 (by omega) (by omega) (by omega)]
    exact r
  have hW : ∀ {w : Nat} {X : MW}, 4 ≤ w → w + 22 ≤ 252 → rW h w X → rW h' w X := fun h1 h2 r => r.of (fun b hb => e3 b (by unfold sRow at hb; omega) (by unfold sRow at hb; omega) (by unfold sRow at hb; omega) (by unfold sRow at hb; omega)) (fun s _ hs => hs.eq e1 e2) (fun b h3 h4 => e3 b (by omega) (by omega) (by omega) (by omega)) (by rw [e2])
  refine ⟨q1.eq e1 e2, ⟨by rw [e1]; exact q2, by rw [e4 36 (by omega)]; exact q2'⟩, ht, ⟨r1, by rw [e3 1 (by omega) (by omega) (by omega) (by omega)]; exact r2, by rw [e4 31 (by omega)]; exact r3, fun k hk => ?_⟩, hW (by omega) (by omega) q5, hm q6 hg, q7, ?_, fun k hk => ?_⟩
  · obtain ⟨a1, a2, a3⟩ := r4 k hk
    exact ⟨a1.of (fun b h1 h2 => e3 b (by omega) (by omega) (by omega) (by omega)), a2.of (fun b h1 h2 => e3 b (by omega) (by omega) (by omega) (by omega)), a3⟩
  · exact q8.of e2 rfl rfl
  · have q := q9 k hk
    unfold imgOK at q ⊢
    rw [e3 50 (by omega) (by omega) (by omega) (by omega), e3 303 (by omega) (by omega) (by omega) (by omega)]
    rcases q with q | ⟨z1, z2, z3, z4, z5⟩
    · exact Or.inl q
    · exact Or.inr ⟨z1, z2, hW (by omega) (by omega) z3, by rw [gI_of (e3 302 (by omega) (by omega) (by omega) (by omega))]; exact z4, z5⟩
theorem op_end (x : Int32) : jo Inv 2 12003 [.int x] := by
  intro n h hn q
  obtain ⟨t, nr, rs, X, Y, q⟩ := q
  obtain ⟨t1, t2, t3, t4⟩ := q.2.2.1
  refine (t_Db_end 198 q.1 x).mono (fun r h1 hq => ?_)
  obtain ⟨rfl, rfl⟩ := hq
  rw [t2]
  by_cases hx : x < 0 ∨ nI t < x
  · rw [if_pos hx, if_pos hx]
    refine ⟨⟨rfl, rfl, sK253 q.1⟩, -1, rfl, (t_Mo_end 198 q.1 x).mono (fun r' h2 hq2 => ?_)⟩
    obtain ⟨rfl, rfl⟩ := hq2
    rw [t3, if_pos hx, if_pos hx]
    exact ⟨rfl, rfl, t, nr, rs, X, Y, q.up (by omega)⟩
  · rw [if_neg hx, if_neg hx]
    refine ⟨⟨wI_ne h 1 x (by decide), rfl, sK253 q.1.wI⟩, x, rfl, (t_Mo_end 198 q.1.wI x).mono (fun r' h2 hq2 => ?_)⟩
    obtain ⟨rfl, rfl⟩ := hq2
    rw [wI_ne h 1 x (show 253 ≠ 2 by decide), t3, if_neg hx, if_neg hx]
    obtain ⟨j, hj, rfl⟩ := nI_of (fun z => hx (Or.inl z))
    have hjt : j ≤ t := by
      rcases Nat.lt_or_ge t j with z | z
      · exact absurd (nI_lt z hj) (fun w => hx (Or.inr w))
      · exact z
    refine ⟨rfl, rfl, j, nr, rs, X, Y, q.tape ⟨⟨rfl, rfl⟩, fun b b1 b2 b3 b4 => by rw [wI_ne _ 27 _ b4, wI_ne _ 1 _ b1], fun k hk => by rw [wI_at, jx_up_ne _ _ hk, wI_ne h 1 _ (by decide)]⟩ ⟨by omega, ?_, ?_, fun i hi => ?_⟩⟩
    · rw [wI_ne _ 27 _ (show 2 ≠ 253 by decide), wI_at, jx_up_self]
    · rw [wI_at, jx_up_self]
    · rw [wI_ne _ 27 _ (show 3 ≠ 253 by decide), wI_ne _ 1 _ (show 3 ≠ 2 by decide), wI_ne _ 27 _ (show 280 ≠ 253 by decide), wI_ne _ 1 _ (show 280 ≠ 2 by decide)]
      exact t4 i (by omega)
/-- bytes come behind the tape of the class, of the model -/
def tpC (h : jx_H) (s : Nat) (b : Nat → Int32) : Nat → jx_H
  | 0 => h
  | n + 1 => jx_wI (jx_wI (tpC h s b n) 3 (s + n) (b n)) 2 1 (nI (s + n + 1))
def tpM (h : jx_H) (s : Nat) (b : Nat → Int32) : Nat → jx_H
  | 0 => h
  | n + 1 => jx_wI (jx_wI (tpM h s b n) 280 (s + n) (b n)) 253 27 (nI (s + n + 1))
theorem tpC_St {h : jx_H} (H : jx_St h) (s : Nat) (b : Nat → Int32) : ∀ n, jx_St (tpC h s b n)
  | 0 => H
  | n + 1 => (tpC_St H s b n).wI.wI
theorem tpM_St {h : jx_H} (H : jx_St h) (s : Nat) (b : Nat → Int32) : ∀ n, jx_St (tpM h s b n)
  | 0 => H
  | n + 1 => (tpM_St H s b n).wI.wI
theorem tpC_sz {h : jx_H} {s : Nat} {b : Nat → Int32} (hs : h.2.1 2 1 = nI s) : ∀ n, (tpC h s b n).2.1 2 1 = nI (s + n)
  | 0 => hs
  | n + 1 => by rw [tpC, wI_at, jx_up_self]; rfl
theorem tpM_sz {h : jx_H} {s : Nat} {b : Nat → Int32} (hs : h.2.1 253 27 = nI s) : ∀ n, (tpM h s b n).2.1 253 27 = nI (s + n)
  | 0 => hs
  | n + 1 => by rw [tpM, wI_at, jx_up_self]; rfl
theorem tpC_ne (h : jx_H) (s : Nat) (b : Nat → Int32) {a : Nat} (h2 : a ≠ 2) (h3 : a ≠ 3) : ∀ n, (tpC h s b n).2.1 a = h.2.1 a
  | 0 => rfl
  | n + 1 => by rw [tpC, wI_ne _ _ _ h2, wI_ne _ _ _ h3, tpC_ne h s b h2 h3 n]
theorem tpM_ne (h : jx_H) (s : Nat) (b : Nat → Int32) {a : Nat} (h2 : a ≠ 253) (h3 : a ≠ 280) : ∀ n, (tpM h s b n).2.1 a = h.2.1 a
  | 0 => rfl
  | n + 1 => by rw [tpM, wI_ne _ _ _ h2, wI_ne _ _ _ h3, tpM_ne h s b h2 h3 n]
theorem tpM_k (h : jx_H) (s : Nat) (b : Nat → Int32) {k : Nat} (hk : k ≠ 27) : ∀ n, (tpM h s b n).2.1 253 k = h.2.1 253 k
  | 0 => rfl
  | n + 1 => by rw [tpM, wI_at, jx_up_ne _ _ hk, wI_ne _ _ _ (by decide), tpM_k h s b hk n]
theorem tpC_at (h : jx_H) (s : Nat) (b : Nat → Int32) (j : Nat) : ∀ n, (tpC h s b n).2.1 3 j = if s ≤ j ∧ j < s + n then b (j - s) else h.2.1 3 j
  | 0 => by rw [if_neg (by omega)]; rfl
  | n + 1 => by
    rw [tpC, wI_ne _ _ _ (by decide), wI_at]
    by_cases e : j = s + n
    · rw [e, jx_up_self, if_pos (by omega), Nat.add_sub_cancel_left]
    · rw [jx_up_ne _ _ e, tpC_at h s b j n]
      by_cases q : s ≤ j ∧ j < s + n
      · rw [if_pos q, if_pos (by omega)]
      · rw [if_neg q, if_neg (by omega)]
theorem tpM_at (h : jx_H) (s : Nat) (b : Nat → Int32) (j : Nat) : ∀ n, (tpM h s b n).2.1 280 j = if s ≤ j ∧ j < s + n then b (j - s) else h.2.1 280 j
  | 0 => by rw [if_neg (by omega)]; rfl
  | n + 1 => by
    rw [tpM, wI_ne _ _ _ (by decide), wI_at]
    by_cases e : j = s + n
    · rw [e, jx_up_self, if_pos (by omega), Nat.add_sub_cancel_left]
    · rw [jx_up_ne _ _ e, tpM_at h s b j n]
      by_cases q : s ≤ j ∧ j < s + n
      · rw [if_pos q, if_pos (by omega)]
      · rw [if_neg q, if_neg (by omega)]
theorem tpC_sh (h : jx_H) (s : Nat) (b : Nat → Int32) : ∀ n, (tpC h s b n).1 = h.1 ∧ (tpC h s b n).2.2.2 = h.2.2.2
  | 0 => ⟨rfl, rfl⟩
  | n + 1 => tpC_sh h s b n
theorem tpM_sh (h : jx_H) (s : Nat) (b : Nat → Int32) : ∀ n, (tpM h s b n).1 = h.1 ∧ (tpM h s b n).2.2.2 = h.2.2.2
  | 0 => ⟨rfl, rfl⟩
  | n + 1 => tpM_sh h s b n
theorem tx_turn {d bc bs s : Nat} {h : jx_H} {Q : Option Value → jx_H → Prop} (H : jx_St h) {x z : Int32} (hz : ¬ z < 0) (hs : h.2.1 2 1 = nI s) (hs4 : s < 400) (k : jx_Ev d bc bs 1001 3 [some (.ref 2), some (.int x), some (.int (z + -8))] [] (jx_wI (jx_wI h 3 s ((x >>> (z &&& 31)) &&& 255)) 2 1 (nI (s + 1))) Q) : jx_Ev d bc bs 1001 3 [some (.ref 2), some (.int x), some (.int z)] [] h Q := by
  refine je_iload2 (pc := 3) d1001_3 rfl ?_
  refine je_iflt (pc := 4) 49 d1001_4 (by decide) (fun c4 => absurd c4 hz) (fun c4 => ?_)
  refine je_aload0 (pc := 7) d1001_7 rfl ?_
  refine ju_geti (pc := 8) d1001_8 jF_1_15 rfl (sK2 H) ?_
  refine je_sipush (pc := 11) (v := 400) d1001_11 rfl ?_
  refine ju_icge (pc := 14) 49 d1001_14 (by decide) (fun c14 => absurd c14 (by rw [hs]; exact fun c => c (nI_lt (a := s) (b := 400) hs4 (by decide)))) (fun c14 => ?_)
  refine je_aload0 (pc := 17) d1001_17 rfl ?_
  refine ju_getr (pc := 18) (b := 3) d1001_18 jF_1_9 rfl (sK2 H) (sR2_0 H) ?_
  refine je_aload0 (pc := 21) d1001_21 rfl ?_
  refine ju_geti (pc := 22) d1001_22 jF_1_15 rfl (sK2 H) ?_
  refine je_iload1 (pc := 25) d1001_25 rfl ?_
  refine je_iload2 (pc := 26) d1001_26 rfl ?_
  refine je_ishr (pc := 27) d1001_27 ?_
  refine je_sipush (pc := 28) (v := 255) d1001_28 rfl ?_
  refine je_iand (pc := 31) d1001_31 ?_
  refine ju_iast (pc := 32) d1001_32 (sK3 H) (by rw [hs]; exact vp_in_nI hs4 (by decide)) rfl ?_
  have e0 : (h.2.1 2 1).toNatClampNeg = s := by rw [hs]; exact nI_clamp (by omega)
  rw [e0]
  refine je_aload0 (pc := 33) d1001_33 rfl ?_
  refine je_dup (pc := 34) d1001_34 rfl ?_
  refine ju_geti (pc := 35) d1001_35 jF_1_15 rfl (sK2 H.wI) ?_
  refine je_iconst (pc := 38) (v := 1) d1001_38 rfl ?_
  refine je_iadd (pc := 39) d1001_39 ?_
  have e1 : (jx_wI h 3 s ((x >>> (z &&& 31)) &&& 255)).2.1 2 1 + 1 = nI (s + 1) := by rw [wI_ne _ _ _ (by decide), hs]; exact nI_1 s
  rw [e1]
  refine ju_puti (pc := 40) d1001_40 jF_1_15 rfl (sK2 H.wI) ?_
  refine ju_inc (pc := 43) (y := -8) (lv' := [some _, some _, some _]) d1001_43 rfl rfl rfl ?_
  refine je_goto (pc := 46) 3 d1001_46 (by decide) ?_
  exact k
theorem mo_turn {d bc bs s : Nat} {h : jx_H} {Q : Option Value → jx_H → Prop} (H : jx_St h) {x z : Int32} (hz : ¬ z < 0) (hs : h.2.1 253 27 = nI s) (hs4 : s < 400) (k : jx_Ev d bc bs 12002 3 [some (.ref 253), some (.int x), some (.int (z + -8))] [] (jx_wI (jx_wI h 280 s ((x >>> (z &&& 31)).toInt8.toInt32.toInt8.toInt32)) 253 27 (nI (s + 1))) Q) : jx_Ev d bc bs 12002 3 [some (.ref 253), some (.int x), some (.int z)] [] h Q := by
  refine je_iload2 (pc := 3) d12002_3 rfl ?_
  refine je_iflt (pc := 4) 36 d12002_4 (by decide) (fun c4 => absurd c4 hz) (fun c4 => ?_)
  refine je_aload0 (pc := 7) d12002_7 rfl ?_
  refine ju_getr (pc := 8) (b := 280) d12002_8 jF_12_92 rfl (sK253 H) (sR253_37 H) ?_
  refine je_aload0 (pc := 11) d12002_11 rfl ?_
  refine ju_geti (pc := 12) d12002_12 jF_12_185 rfl (sK253 H) ?_
  refine je_iload1 (pc := 15) d12002_15 rfl ?_
  refine je_iload2 (pc := 16) d12002_16 rfl ?_
  refine je_ishr (pc := 17) d12002_17 ?_
  refine je_i2b (pc := 18) d12002_18 ?_
  refine ju_bast (pc := 19) d12002_19 (sK280 H) (by rw [hs]; exact vp_in_nI hs4 (by decide)) rfl ?_
  have e0 : (h.2.1 253 27).toNatClampNeg = s := by rw [hs]; exact nI_clamp (by omega)
  rw [e0]
  refine je_aload0 (pc := 20) d12002_20 rfl ?_
  refine je_dup (pc := 21) d12002_21 rfl ?_
  refine ju_geti (pc := 22) d12002_22 jF_12_185 rfl (sK253 H.wI) ?_
  refine je_iconst (pc := 25) (v := 1) d12002_25 rfl ?_
  refine je_iadd (pc := 26) d12002_26 ?_
  have e1 : (jx_wI h 280 s ((x >>> (z &&& 31)).toInt8.toInt32.toInt8.toInt32)).2.1 253 27 + 1 = nI (s + 1) := by rw [wI_ne _ _ _ (by decide), hs]; exact nI_1 s
  rw [e1]
  refine ju_puti (pc := 27) d12002_27 jF_12_185 rfl (sK253 H.wI) ?_
  refine ju_inc (pc := 30) (y := -8) (lv' := [some _, some _, some _]) d12002_30 rfl rfl rfl ?_
  refine je_goto (pc := 33) 3 d12002_33 (by decide) ?_
  exact k
theorem tpC_congr {h : jx_H} {s : Nat} {b c : Nat → Int32} : ∀ {n : Nat}, (∀ i, i < n → b i = c i) → tpC h s b n = tpC h s c n
  | 0, _ => rfl
  | n + 1, e => by rw [tpC, tpC, tpC_congr (fun i hi => e i (by omega)), e n (by omega)]
theorem tpM_congr {h : jx_H} {s : Nat} {b c : Nat → Int32} : ∀ {n : Nat}, (∀ i, i < n → b i = c i) → tpM h s b n = tpM h s c n
  | 0, _ => rfl
  | n + 1, e => by rw [tpM, tpM, tpM_congr (fun i hi => e i (by omega)), e n (by omega)]
theorem tpC_app (h : jx_H) (s m : Nat) (b : Nat → Int32) : ∀ n, tpC (tpC h s b m) (s + m) (fun i => b (m + i)) n = tpC h s b (m + n)
  | 0 => rfl
  | n + 1 => by
    rw [tpC, tpC_app h s m b n]
    show _ = jx_wI (jx_wI (tpC h s b (m + n)) 3 (s + (m + n)) (b (m + n))) 2 1 (nI (s + (m + n) + 1))
    rw [Nat.add_assoc s m n]
theorem tpM_app (h : jx_H) (s m : Nat) (b : Nat → Int32) : ∀ n, tpM (tpM h s b m) (s + m) (fun i => b (m + i)) n = tpM h s b (m + n)
  | 0 => rfl
  | n + 1 => by
    rw [tpM, tpM_app h s m b n]
    show _ = jx_wI (jx_wI (tpM h s b (m + n)) 280 (s + (m + n)) (b (m + n))) 253 27 (nI (s + (m + n) + 1))
    rw [Nat.add_assoc s m n]
/-- the four bytes of a number -/
def by4 (x : Int32) (i : Nat) : Int32 := x >>> (([24, 16, 8, 0] : List Int32).getD i 0 &&& 31)
def by20 (a b c d e : Int32) (i : Nat) : Int32 := by4 (([a, b, c, d, e] : List Int32).getD (i / 4) 0) (i % 4)
theorem t_Tx_add (d : Nat) {bc bs s : Nat} {h : jx_H} (H : jx_St h) (x : Int32) (hs : h.2.1 2 1 = nI s) (hs4 : s + 4 ≤ 400) : jx_Tr (d + 1) bc bs 1001 [.ref 2, .int x] h (fun r h' => r = none ∧ h' = tpC h s (fun i => by4 x i &&& 255) 4) := by
  refine jx_tr jM_Tx_add rfl rfl (lv := [some (.ref 2), some (.int x), none]) rfl ?_
  refine je_bipush (pc := 0) (v := 24) d1001_0 rfl ?_
  refine ju_istore2 (pc := 2) (lv' := [some _, some _, some _]) d1001_2 rfl rfl ?_
  refine tx_turn (s := s) H (by decide) hs (by omega) ?_
  refine tx_turn (s := s + 1) H.wI.wI (by decide) (by rw [wI_at, jx_up_self]) (by omega) ?_
  refine tx_turn (s := s + 2) H.wI.wI.wI.wI (by decide) (by rw [wI_at, jx_up_self]) (by omega) ?_
  refine tx_turn (s := s + 3) H.wI.wI.wI.wI.wI.wI (by decide) (by rw [wI_at, jx_up_self]) (by omega) ?_
  refine je_iload2 (pc := 3) d1001_3 rfl ?_
  refine je_iflt (pc := 4) 49 d1001_4 (by decide) (fun _ => ?_) (fun c => absurd (by decide) c)
  refine je_ret (pc := 49) d1001_49 rfl ?_
  exact ⟨rfl, rfl⟩
theorem t_Mo_put (d : Nat) {bc bs s : Nat} {h : jx_H} (H : jx_St h) (x : Int32) (hs : h.2.1 253 27 = nI s) (hs4 : s + 4 ≤ 400) : jx_Tr (d + 1) bc bs 12002 [.ref 253, .int x] h (fun r h' => r = none ∧ h' = tpM h s (fun i => (by4 x i).toInt8.toInt32.toInt8.toInt32) 4) := by
  refine jx_tr jM_Mo_put rfl rfl (lv := [some (.ref 253), some (.int x), none]) rfl ?_
  refine je_bipush (pc := 0) (v := 24) d12002_0 rfl ?_
  refine ju_istore2 (pc := 2) (lv' := [some _, some _, some _]) d12002_2 rfl rfl ?_
  refine mo_turn (s := s) H (by decide) hs (by omega) ?_
  refine mo_turn (s := s + 1) H.wI.wI (by decide) (by rw [wI_at, jx_up_self]) (by omega) ?_
  refine mo_turn (s := s + 2) H.wI.wI.wI.wI (by decide) (by rw [wI_at, jx_up_self]) (by omega) ?_
  refine mo_turn (s := s + 3) H.wI.wI.wI.wI.wI.wI (by decide) (by rw [wI_at, jx_up_self]) (by omega) ?_
  refine je_iload2 (pc := 3) d12002_3 rfl ?_
  refine je_iflt (pc := 4) 36 d12002_4 (by decide) (fun _ => ?_) (fun c => absurd (by decide) c)
  refine je_ret (pc := 36) d12002_36 rfl ?_
  exact ⟨rfl, rfl⟩
set_option maxHeartbeats 2000000 in
theorem t_Db_feed (d : Nat) {bc bs : Nat} {h : jx_H} {s : Nat} (H : jx_St h) (a b c e f : Int32) (hs : h.2.1 2 1 = nI s) (hs4 : s ≤ 400) : jx_Tr (d + 2) bc bs 1 [.ref 1, .int a, .int b, .int c, .int e, .int f] h (fun r h' => (380 < s → r = some (.int (-1)) ∧ h' = h) ∧ (s ≤ 380 → r = some (.int (nI (s + 20))) ∧ h' = tpC h s (fun i => by20 a b c e f i &&& 255) 20)) := by
  refine jx_tr jM_Db_feed rfl rfl (lv := [some (.ref 1), some (.int a), some (.int b), some (.int c), some (.int e), some (.int f)]) rfl ?_
  refine je_aload0 (pc := 0) d1_0 rfl ?_
  refine ju_getr (pc := 1) (b := 2) d1_1 jF_0_10 rfl (sK1 H) (sR1_0 H) ?_
  refine ju_geti (pc := 4) d1_4 jF_0_84 rfl (sK2 H) ?_
  refine je_sipush (pc := 7) (v := 380) d1_7 rfl ?_
  refine ju_icle (pc := 10) 15 d1_10 (by decide) (fun c10 => ?_) (fun c10 => ?_)
  · have hs8 : s ≤ 380 := by
      rcases Nat.lt_or_ge 380 s with z | z
      · exact absurd (hs ▸ nI_lt z (by omega)) c10
      · exact z
    refine je_aload0 (pc := 15) d1_15 rfl ?_
    refine ju_getr (pc := 16) (b := 2) d1_16 jF_0_10 rfl (sK1 H) (sR1_0 H) ?_
    refine je_iload1 (pc := 19) d1_19 rfl ?_
    refine ju_callv (pc := 20) (as := [_]) d1_20 jL_0_88 jM_Tx_add rfl (by decide) (sK2 H) rfl (by exact Nat.le_of_ble_eq_true rfl) (t_Tx_add d (s := s + 0) (tpC_St H s (fun i => by20 a b c e f i &&& 255) 0) _ (tpC_sz hs 0) (by omega)) (fun r20 h20 q20 => ?_)
    obtain ⟨rfl, e20⟩ := q20
    obtain rfl := e20.symm
    rw [show tpC (tpC h s (fun i => by20 a b c e f i &&& 255) 0) (s + 0) (fun i => by4 a i &&& 255) 4 = tpC h s (fun i => by20 a b c e f i &&& 255) 4 from (tpC_congr (fun i hi => by rcases (show i = 0 ∨ i = 1 ∨ i = 2 ∨ i = 3 by omega) with rfl | rfl | rfl | rfl <;> rfl)).trans (tpC_app h s 0 _ 4)]
    refine je_aload0 (pc := 23) d1_23 rfl ?_
    refine ju_getr (pc := 24) (b := 2) d1_24 jF_0_10 rfl (sK1 (tpC_St H s (fun i => by20 a b c e f i &&& 255) 4)) (sR1_0 (tpC_St H s (fun i => by20 a b c e f i &&& 255) 4)) ?_
    refine je_iload2 (pc := 27) d1_27 rfl ?_
    refine ju_callv (pc := 28) (as := [_]) d1_28 jL_0_88 jM_Tx_add rfl (by decide) (sK2 (tpC_St H s (fun i => by20 a b c e f i &&& 255) 4)) rfl (by exact Nat.le_of_ble_eq_true rfl) (t_Tx_add d (s := s + 4) (tpC_St H s (fun i => by20 a b c e f i &&& 255) 4) _ (tpC_sz hs 4) (by omega)) (fun r28 h28 q28 => ?_)
    obtain ⟨rfl, e28⟩ := q28
    obtain rfl := e28.symm
    rw [show tpC (tpC h s (fun i => by20 a b c e f i &&& 255) 4) (s + 4) (fun i => by4 b i &&& 255) 4 = tpC h s (fun i => by20 a b c e f i &&& 255) 8 from (tpC_congr (fun i hi => by rcases (show i = 0 ∨ i = 1 ∨ i = 2 ∨ i = 3 by omega) with rfl | rfl | rfl | rfl <;> rfl)).trans (tpC_app h s 4 _ 4)]
    refine je_aload0 (pc := 31) d1_31 rfl ?_
    refine ju_getr (pc := 32) (b := 2) d1_32 jF_0_10 rfl (sK1 (tpC_St H s (fun i => by20 a b c e f i &&& 255) 8)) (sR1_0 (tpC_St H s (fun i => by20 a b c e f i &&& 255) 8)) ?_
    refine je_iload3 (pc := 35) d1_35 rfl ?_
    refine ju_callv (pc := 36) (as := [_]) d1_36 jL_0_88 jM_Tx_add rfl (by decide) (sK2 (tpC_St H s (fun i => by20 a b c e f i &&& 255) 8)) rfl (by exact Nat.le_of_ble_eq_true rfl) (t_Tx_add d (s := s + 8) (tpC_St H s (fun i => by20 a b c e f i &&& 255) 8) _ (tpC_sz hs 8) (by omega)) (fun r36 h36 q36 => ?_)
    obtain ⟨rfl, e36⟩ := q36
    obtain rfl := e36.symm
    rw [show tpC (tpC h s (fun i => by20 a b c e f i &&& 255) 8) (s + 8) (fun i => by4 c i &&& 255) 4 = tpC h s (fun i => by20 a b c e f i &&& 255) 12 from (tpC_congr (fun i hi => by rcases (show i = 0 ∨ i = 1 ∨ i = 2 ∨ i = 3 by omega) with rfl | rfl | rfl | rfl <;> rfl)).trans (tpC_app h s 8 _ 4)]
    refine je_aload0 (pc := 39) d1_39 rfl ?_
    refine ju_getr (pc := 40) (b := 2) d1_40 jF_0_10 rfl (sK1 (tpC_St H s (fun i => by20 a b c e f i &&& 255) 12)) (sR1_0 (tpC_St H s (fun i => by20 a b c e f i &&& 255) 12)) ?_
    refine je_iload (pc := 43) d1_43 rfl ?_
    refine ju_callv (pc := 45) (as := [_]) d1_45 jL_0_88 jM_Tx_add rfl (by decide) (sK2 (tpC_St H s (fun i => by20 a b c e f i &&& 255) 12)) rfl (by exact Nat.le_of_ble_eq_true rfl) (t_Tx_add d (s := s + 12) (tpC_St H s (fun i => by20 a b c e f i &&& 255) 12) _ (tpC_sz hs 12) (by omega)) (fun r45 h45 q45 => ?_)
    obtain ⟨rfl, e45⟩ := q45
    obtain rfl := e45.symm
    rw [show tpC (tpC h s (fun i => by20 a b c e f i &&& 255) 12) (s + 12) (fun i => by4 e i &&& 255) 4 = tpC h s (fun i => by20 a b c e f i &&& 255) 16 from (tpC_congr (fun i hi => by rcases (show i = 0 ∨ i = 1 ∨ i = 2 ∨ i = 3 by omega) with rfl | rfl | rfl | rfl <;> rfl)).trans (tpC_app h s 12 _ 4)]
    refine je_aload0 (pc := 48) d1_48 rfl ?_
    refine ju_getr (pc := 49) (b := 2) d1_49 jF_0_10 rfl (sK1 (tpC_St H s (fun i => by20 a b c e f i &&& 255) 16)) (sR1_0 (tpC_St H s (fun i => by20 a b c e f i &&& 255) 16)) ?_
    refine je_iload (pc := 52) d1_52 rfl ?_
    refine ju_callv (pc := 54) (as := [_]) d1_54 jL_0_88 jM_Tx_add rfl (by decide) (sK2 (tpC_St H s (fun i => by20 a b c e f i &&& 255) 16)) rfl (by exact Nat.le_of_ble_eq_true rfl) (t_Tx_add d (s := s + 16) (tpC_St H s (fun i => by20 a b c e f i &&& 255) 16) _ (tpC_sz hs 16) (by omega)) (fun r54 h54 q54 => ?_)
    obtain ⟨rfl, e54⟩ := q54
    obtain rfl := e54.symm
    rw [show tpC (tpC h s (fun i => by20 a b c e f i &&& 255) 16) (s + 16) (fun i => by4 f i &&& 255) 4 = tpC h s (fun i => by20 a b c e f i &&& 255) 20 from (tpC_congr (fun i hi => by rcases (show i = 0 ∨ i = 1 ∨ i = 2 ∨ i = 3 by omega) with rfl | rfl | rfl | rfl <;> rfl)).trans (tpC_app h s 16 _ 4)]
    refine je_aload0 (pc := 57) d1_57 rfl ?_
    refine ju_getr (pc := 58) (b := 2) d1_58 jF_0_10 rfl (sK1 (tpC_St H s (fun i => by20 a b c e f i &&& 255) 20)) (sR1_0 (tpC_St H s (fun i => by20 a b c e f i &&& 255) 20)) ?_
    refine ju_geti (pc := 61) d1_61 jF_0_84 rfl (sK2 (tpC_St H s (fun i => by20 a b c e f i &&& 255) 20)) ?_
    refine je_iret (pc := 64) d1_64 rfl ?_
    exact ⟨fun z => absurd z (by omega), fun _ => ⟨by rw [tpC_sz hs 20], rfl⟩⟩
  · refine je_iconst (pc := 13) (v := -1) d1_13 rfl ?_
    refine je_iret (pc := 14) d1_14 rfl ?_
    exact ⟨fun _ => ⟨rfl, rfl⟩, fun z => absurd c10 (fun w => (nI_nlt (a := 380) (b := s) z (by decide)) (hs ▸ w))⟩
set_option maxHeartbeats 2000000 in
theorem t_Mo_feed (d : Nat) {bc bs : Nat} {h : jx_H} {s : Nat} (H : jx_St h) (a b c e f : Int32) (hs : h.2.1 253 27 = nI s) (hs4 : s ≤ 400) : jx_Tr (d + 2) bc bs 12001 [.ref 253, .int a, .int b, .int c, .int e, .int f] h (fun r h' => (380 < s → r = some (.int (-1)) ∧ h' = h) ∧ (s ≤ 380 → r = some (.int (nI (s + 20))) ∧ h' = tpM h s (fun i => (by20 a b c e f i).toInt8.toInt32.toInt8.toInt32) 20)) := by
  refine jx_tr jM_Mo_feed rfl rfl (lv := [some (.ref 253), some (.int a), some (.int b), some (.int c), some (.int e), some (.int f)]) rfl ?_
  have e20 : nI s + 20 = nI (s + 20) := nI_add s 20
  refine je_aload0 (pc := 0) d12001_0 rfl ?_
  refine ju_geti (pc := 1) d12001_1 jF_12_185 rfl (sK253 H) ?_
  refine je_bipush (pc := 4) (v := 20) d12001_4 rfl ?_
  refine je_iadd (pc := 6) d12001_6 ?_
  refine je_sipush (pc := 7) (v := 400) d12001_7 rfl ?_
  refine ju_icle (pc := 10) 15 d12001_10 (by decide) (fun c10 => ?_) (fun c10 => ?_)
  · have hs8 : s ≤ 380 := by
      rcases Nat.lt_or_ge 380 s with z | z
      · exact absurd (by rw [hs, e20]; exact nI_lt (a := 400) (b := s + 20) (by omega) (by omega)) c10
      · exact z
    refine je_aload0 (pc := 15) d12001_15 rfl ?_
    refine je_iload1 (pc := 16) d12001_16 rfl ?_
    refine ju_callv (pc := 17) (as := [_]) d12001_17 jL_12_188 jM_Mo_put rfl (by decide) (sK253 H) rfl (by exact Nat.le_of_ble_eq_true rfl) (t_Mo_put d (s := s + 0) (tpM_St H s (fun i => (by20 a b c e f i).toInt8.toInt32.toInt8.toInt32) 0) _ (tpM_sz hs 0) (by omega)) (fun r17 h17 q17 => ?_)
    obtain ⟨rfl, e17⟩ := q17
    obtain rfl := e17.symm
    rw [show tpM (tpM h s (fun i => (by20 a b c e f i).toInt8.toInt32.toInt8.toInt32) 0) (s + 0) (fun i => (by4 a i).toInt8.toInt32.toInt8.toInt32) 4 = tpM h s (fun i => (by20 a b c e f i).toInt8.toInt32.toInt8.toInt32) 4 from (tpM_congr (fun i hi => by rcases (show i = 0 ∨ i = 1 ∨ i = 2 ∨ i = 3 by omega) with rfl | rfl | rfl | rfl <;> rfl)).trans (tpM_app h s 0 _ 4)]
    refine je_aload0 (pc := 20) d12001_20 rfl ?_
    refine je_iload2 (pc := 21) d12001_21 rfl ?_
    refine ju_callv (pc := 22) (as := [_]) d12001_22 jL_12_188 jM_Mo_put rfl (by decide) (sK253 (tpM_St H s (fun i => (by20 a b c e f i).toInt8.toInt32.toInt8.toInt32) 4)) rfl (by exact Nat.le_of_ble_eq_true rfl) (t_Mo_put d (s := s + 4) (tpM_St H s (fun i => (by20 a b c e f i).toInt8.toInt32.toInt8.toInt32) 4) _ (tpM_sz hs 4) (by omega)) (fun r22 h22 q22 => ?_)
    obtain ⟨rfl, e22⟩ := q22
    obtain rfl := e22.symm
    rw [show tpM (tpM h s (fun i => (by20 a b c e f i).toInt8.toInt32.toInt8.toInt32) 4) (s + 4) (fun i => (by4 b i).toInt8.toInt32.toInt8.toInt32) 4 = tpM h s (fun i => (by20 a b c e f i).toInt8.toInt32.toInt8.toInt32) 8 from (tpM_congr (fun i hi => by rcases (show i = 0 ∨ i = 1 ∨ i = 2 ∨ i = 3 by omega) with rfl | rfl | rfl | rfl <;> rfl)).trans (tpM_app h s 4 _ 4)]
    refine je_aload0 (pc := 25) d12001_25 rfl ?_
    refine je_iload3 (pc := 26) d12001_26 rfl ?_
    refine ju_callv (pc := 27) (as := [_]) d12001_27 jL_12_188 jM_Mo_put rfl (by decide) (sK253 (tpM_St H s (fun i => (by20 a b c e f i).toInt8.toInt32.toInt8.toInt32) 8)) rfl (by exact Nat.le_of_ble_eq_true rfl) (t_Mo_put d (s := s + 8) (tpM_St H s (fun i => (by20 a b c e f i).toInt8.toInt32.toInt8.toInt32) 8) _ (tpM_sz hs 8) (by omega)) (fun r27 h27 q27 => ?_)
    obtain ⟨rfl, e27⟩ := q27
    obtain rfl := e27.symm
    rw [show tpM (tpM h s (fun i => (by20 a b c e f i).toInt8.toInt32.toInt8.toInt32) 8) (s + 8) (fun i => (by4 c i).toInt8.toInt32.toInt8.toInt32) 4 = tpM h s (fun i => (by20 a b c e f i).toInt8.toInt32.toInt8.toInt32) 12 from (tpM_congr (fun i hi => by rcases (show i = 0 ∨ i = 1 ∨ i = 2 ∨ i = 3 by omega) with rfl | rfl | rfl | rfl <;> rfl)).trans (tpM_app h s 8 _ 4)]
    refine je_aload0 (pc := 30) d12001_30 rfl ?_
    refine je_iload (pc := 31) d12001_31 rfl ?_
    refine ju_callv (pc := 33) (as := [_]) d12001_33 jL_12_188 jM_Mo_put rfl (by decide) (sK253 (tpM_St H s (fun i => (by20 a b c e f i).toInt8.toInt32.toInt8.toInt32) 12)) rfl (by exact Nat.le_of_ble_eq_true rfl) (t_Mo_put d (s := s + 12) (tpM_St H s (fun i => (by20 a b c e f i).toInt8.toInt32.toInt8.toInt32) 12) _ (tpM_sz hs 12) (by omega)) (fun r33 h33 q33 => ?_)
    obtain ⟨rfl, e33⟩ := q33
    obtain rfl := e33.symm
    rw [show tpM (tpM h s (fun i => (by20 a b c e f i).toInt8.toInt32.toInt8.toInt32) 12) (s + 12) (fun i => (by4 e i).toInt8.toInt32.toInt8.toInt32) 4 = tpM h s (fun i => (by20 a b c e f i).toInt8.toInt32.toInt8.toInt32) 16 from (tpM_congr (fun i hi => by rcases (show i = 0 ∨ i = 1 ∨ i = 2 ∨ i = 3 by omega) with rfl | rfl | rfl | rfl <;> rfl)).trans (tpM_app h s 12 _ 4)]
    refine je_aload0 (pc := 36) d12001_36 rfl ?_
    refine je_iload (pc := 37) d12001_37 rfl ?_
    refine ju_callv (pc := 39) (as := [_]) d12001_39 jL_12_188 jM_Mo_put rfl (by decide) (sK253 (tpM_St H s (fun i => (by20 a b c e f i).toInt8.toInt32.toInt8.toInt32) 16)) rfl (by exact Nat.le_of_ble_eq_true rfl) (t_Mo_put d (s := s + 16) (tpM_St H s (fun i => (by20 a b c e f i).toInt8.toInt32.toInt8.toInt32) 16) _ (tpM_sz hs 16) (by omega)) (fun r39 h39 q39 => ?_)
    obtain ⟨rfl, e39⟩ := q39
    obtain rfl := e39.symm
    rw [show tpM (tpM h s (fun i => (by20 a b c e f i).toInt8.toInt32.toInt8.toInt32) 16) (s + 16) (fun i => (by4 f i).toInt8.toInt32.toInt8.toInt32) 4 = tpM h s (fun i => (by20 a b c e f i).toInt8.toInt32.toInt8.toInt32) 20 from (tpM_congr (fun i hi => by rcases (show i = 0 ∨ i = 1 ∨ i = 2 ∨ i = 3 by omega) with rfl | rfl | rfl | rfl <;> rfl)).trans (tpM_app h s 16 _ 4)]
    refine je_aload0 (pc := 42) d12001_42 rfl ?_
    refine ju_geti (pc := 43) d12001_43 jF_12_185 rfl (sK253 (tpM_St H s (fun i => (by20 a b c e f i).toInt8.toInt32.toInt8.toInt32) 20)) ?_
    refine je_iret (pc := 46) d12001_46 rfl ?_
    exact ⟨fun z => absurd z (by omega), fun _ => ⟨by rw [tpM_sz hs 20], rfl⟩⟩
  · refine je_iconst (pc := 13) (v := -1) d12001_13 rfl ?_
    refine je_iret (pc := 14) d12001_14 rfl ?_
    exact ⟨fun _ => ⟨rfl, rfl⟩, fun z => absurd c10 (by rw [hs, e20]; exact nI_nlt (a := 400) (b := s + 20) (by omega) (by decide))⟩
theorem by_same (v : Int32) : v.toInt8.toInt32.toInt8.toInt32 = v.toInt8.toInt32 := by simp
theorem op_feed (a b c e f : Int32) : jo Inv 1 12001 [.int a, .int b, .int c, .int e, .int f] := by
  intro n h hn q
  obtain ⟨t, nr, rs, X, Y, q⟩ := q
  obtain ⟨t1, t2, t3, t4⟩ := q.2.2.1
  refine (t_Db_feed 197 q.1 a b c e f t2 t1).mono (fun r h1 hq => ?_)
  rcases Nat.lt_or_ge 380 t with z | z
  · obtain ⟨rfl, rfl⟩ := hq.1 z
    refine ⟨⟨rfl, rfl, sK253 q.1⟩, -1, rfl, (t_Mo_feed 197 q.1 a b c e f t3 t1).mono (fun r' h2 hq2 => ?_)⟩
    obtain ⟨rfl, rfl⟩ := hq2.1 z
    exact ⟨rfl, rfl, t, nr, rs, X, Y, q.up (by omega)⟩
  · obtain ⟨rfl, rfl⟩ := hq.2 z
    have e3 := tpC_ne h t (fun i => by20 a b c e f i &&& 255) (a := 253) (by decide) (by decide) 20
    refine ⟨⟨tpC_ne h t _ (by decide) (by decide) 20, by rw [(tpC_sh h t _ 20).1], sK253 (tpC_St q.1 t _ 20)⟩, nI (t + 20), rfl, (t_Mo_feed 197 (tpC_St q.1 t _ 20) a b c e f (by rw [e3]; exact t3) t1).mono (fun r' h2 hq2 => ?_)⟩
    obtain ⟨rfl, rfl⟩ := hq2.2 z
    refine ⟨rfl, by rw [(tpM_sh _ t _ 20).1], t + 20, nr, rs, X, Y, q.tape ⟨⟨by rw [(tpM_sh _ t _ 20).1, (tpC_sh h t _ 20).1], by rw [(tpM_sh _ t _ 20).2, (tpC_sh h t _ 20).2]⟩, fun x x1 x2 x3 x4 => by rw [tpM_ne _ t _ x4 x3 20, tpC_ne h t _ x1 x2 20], fun k hk => by rw [tpM_k _ t _ hk 20, e3]⟩ ⟨by omega, ?_, ?_, fun j hj => ?_⟩⟩
    · rw [tpM_ne _ t _ (by decide) (by decide) 20]; exact tpC_sz t2 20
    · exact tpM_sz (by rw [e3]; exact t3) 20
    · rw [tpM_ne _ t _ (a := 3) (by decide) (by decide) 20, tpC_at, tpM_at, tpC_ne h t _ (a := 280) (by decide) (by decide) 20]
      by_cases w : t ≤ j ∧ j < t + 20
      · rw [if_pos w, if_pos w]
        refine ⟨?_, by rw [by_same, by_same]⟩
        rw [by_same, bp_b]
      · rw [if_neg w, if_neg w]
        exact t4 j (by omega)
