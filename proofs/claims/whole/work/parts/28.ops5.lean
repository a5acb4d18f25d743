/-! frames; count, force, log, part -/
/-- only rows of A change -/
def fC (A : Nat → Prop) (h h' : jx_H) : Prop := (h'.1 = h.1 ∧ h'.2.2.2 = h.2.2.2) ∧ ∀ b, ¬ A b → h'.2.1 b = h.2.1 b
theorem fC.rf {A : Nat → Prop} {h : jx_H} : fC A h h := ⟨⟨rfl, rfl⟩, fun _ _ => rfl⟩
theorem fC.tr {A : Nat → Prop} {h1 h2 h3 : jx_H} (a : fC A h1 h2) (b : fC A h2 h3) : fC A h1 h3 := ⟨⟨b.1.1.trans a.1.1, b.1.2.trans a.1.2⟩, fun q hq => (b.2 q hq).trans (a.2 q hq)⟩
theorem fC.mo {A B : Nat → Prop} {h h' : jx_H} (q : fC A h h') (e : ∀ b, A b → B b) : fC B h h' := ⟨q.1, fun b hb => q.2 b (fun z => hb (e b z))⟩
theorem fC.wI {A : Nat → Prop} {h h' : jx_H} (q : fC A h h') {a k : Nat} {v : Int32} (ha : A a) : fC A h (jx_wI h' a k v) := ⟨q.1, fun b hb => (wI_ne h' k v (fun (e : b = a) => hb (by rw [e]; exact ha))).trans (q.2 b hb)⟩
theorem fC.wL {A : Nat → Prop} {h h' : jx_H} (q : fC A h h') {a k : Nat} {v : Int64} : fC A h (jx_wL h' a k v) := q
theorem cpI_at (h : jx_H) (a0 sp a dp n : Nat) : (jx_cpI h a0 sp a dp n).2.1 a = va_cpy (h.2.1 a0) (h.2.1 a) sp dp n := jx_row_self _ _ _
theorem cpI_ne (h : jx_H) {a b : Nat} (a0 sp dp n : Nat) (hb : b ≠ a) : (jx_cpI h a0 sp a dp n).2.1 b = h.2.1 b := jx_row_ne _ _ hb
theorem fC.cp {A : Nat → Prop} {h h' : jx_H} (q : fC A h h') {a0 sp a dp n : Nat} (ha : A a) : fC A h (jx_cpI h' a0 sp a dp n) := ⟨q.1, fun b hb => (cpI_ne h' a0 sp dp n (fun (e : b = a) => hb (by rw [e]; exact ha))).trans (q.2 b hb)⟩
theorem fC.St {A : Nat → Prop} {h h' : jx_H} (q : fC A h h') (H : jx_St h) : jx_St h' := H.eq q.1.1 q.1.2
theorem fC.Sp {A : Nat → Prop} {h h' : jx_H} {s : Nat} (q : fC A h h') (H : jx_Sp h s) : jx_Sp h' s := H.eq q.1.1 q.1.2
theorem fC.La {A : Nat → Prop} {h h' : jx_H} {s : Nat} (q : fC A h h') (H : jx_La h s) : jx_La h' s := by
  unfold jx_La at H ⊢
  rw [q.1.1, q.1.2]
  exact H
theorem fC.Rl {A : Nat → Prop} {h h' : jx_H} {s : Nat} (q : fC A h h') (H : jx_Rl h s) : jx_Rl h' s := by
  unfold jx_Rl at H ⊢
  rw [q.1.1, q.1.2]
  exact H
theorem fC.rr {A : Nat → Prop} {h h' : jx_H} (q : fC A h h') {a k : Nat} {r : Option Nat} (e : h.2.2.2 a k = r) : h'.2.2.2 a k = r := by rw [q.1.2]; exact e
/-- rows that an operation of the class may change -/
def cRow (b : Nat) : Prop := ¬ kRow b ∧ b < 253
/-- what an operation of the model may change -/
def fM (h h' : jx_H) : Prop := (h'.1 = h.1 ∧ h'.2.2.2 = h.2.2.2) ∧ (∀ b, b < 253 ∨ kRow b → h'.2.1 b = h.2.1 b) ∧ (∀ i, i < 4400 → h'.2.1 302 i = h.2.1 302 i) ∧ h'.2.1 253 27 = h.2.1 253 27 ∧ h'.2.1 253 31 = h.2.1 253 31 ∧ h'.2.1 253 36 = h.2.1 253 36
theorem fM.rf {h : jx_H} : fM h h := ⟨⟨rfl, rfl⟩, fun _ _ => rfl, fun _ _ => rfl, rfl, rfl, rfl⟩
theorem fM.tr {h1 h2 h3 : jx_H} (a : fM h1 h2) (b : fM h2 h3) : fM h1 h3 := ⟨⟨b.1.1.trans a.1.1, b.1.2.trans a.1.2⟩, fun q hq => (b.2.1 q hq).trans (a.2.1 q hq), fun i hi => (b.2.2.1 i hi).trans (a.2.2.1 i hi), b.2.2.2.1.trans a.2.2.2.1, b.2.2.2.2.1.trans a.2.2.2.2.1, b.2.2.2.2.2.trans a.2.2.2.2.2⟩
/-- rows of the model that any of its operations may write -/
def mRow (b : Nat) : Prop := (254 ≤ b ∧ b ≤ 279) ∨ (287 ≤ b ∧ b ≤ 301)
theorem mRow_k {b : Nat} (h : mRow b) : ¬ (b < 253 ∨ kRow b) ∧ b ≠ 302 ∧ b ≠ 253 := by unfold mRow at h; unfold kRow sRow; omega
theorem fM.wI {h h' : jx_H} (q : fM h h') {a k : Nat} {v : Int32} (ha : mRow a) : fM h (jx_wI h' a k v) := by
  obtain ⟨h1, h2, h3⟩ := mRow_k ha
  exact ⟨q.1, fun b hb => (wI_ne h' k v (fun (e : b = a) => h1 (by rw [← e]; exact hb))).trans (q.2.1 b hb), fun i hi => by rw [wI_ne h' k v (Ne.symm h2)]; exact q.2.2.1 i hi, by rw [wI_ne h' k v (Ne.symm h3)]; exact q.2.2.2.1, by rw [wI_ne h' k v (Ne.symm h3)]; exact q.2.2.2.2.1, by rw [wI_ne h' k v (Ne.symm h3)]; exact q.2.2.2.2.2⟩
theorem fM.wM {h h' : jx_H} (q : fM h h') {k : Nat} {v : Int32} (hk : k ≠ 27 ∧ k ≠ 31 ∧ k ≠ 36) : fM h (jx_wI h' 253 k v) :=
  ⟨q.1, fun b hb => (wI_ne h' k v (by intro e; subst e; unfold kRow sRow at hb; omega)).trans (q.2.1 b hb), fun i hi => by rw [wI_ne h' k v (by decide)]; exact q.2.2.1 i hi, by rw [wI_at, jx_up_ne _ _ (Ne.symm hk.1)]; exact q.2.2.2.1, by rw [wI_at, jx_up_ne _ _ (Ne.symm hk.2.1)]; exact q.2.2.2.2.1, by rw [wI_at, jx_up_ne _ _ (Ne.symm hk.2.2)]; exact q.2.2.2.2.2⟩
theorem fM.wL {h h' : jx_H} (q : fM h h') {a k : Nat} {v : Int64} : fM h (jx_wL h' a k v) := q
theorem fM.St {h h' : jx_H} (q : fM h h') (H : jx_St h) : jx_St h' := H.eq q.1.1 q.1.2
/-- model work given as a set of rows -/
theorem fM.of {A : Nat → Prop} {h h' : jx_H} (q : fC A h h') (e : ∀ b, A b → mRow b ∨ b = 253) (h1 : h'.2.1 253 27 = h.2.1 253 27) (h2 : h'.2.1 253 31 = h.2.1 253 31) (h3 : h'.2.1 253 36 = h.2.1 253 36) : fM h h' :=
  ⟨q.1, fun b hb => q.2 b (fun z => (e b z).elim (fun y => (mRow_k y).1 hb) (fun y => by subst y; unfold kRow sRow at hb; omega)), fun i _ => by rw [q.2 302 (fun z => (e 302 z).elim (fun y => (mRow_k y).2.1 rfl) (fun y => by omega))], h1, h2, h3⟩
/-- all but the world of now -/
def InvB (n : Nat) (h : jx_H) (t nr : Nat) (rs : Nat → MR) (Y : Nat → MW) : Prop := jx_St h ∧ (h.1.length ≤ 304 + 13 * n ∧ h.2.1 253 36 = 12) ∧ tapeOK h t ∧ rulesOK h nr rs ∧ ∀ k, k < 4 → imgOK h n nr Y k
theorem InvX.B {n : Nat} {h : jx_H} {t nr : Nat} {rs : Nat → MR} {X : MW} {Y : Nat → MW} (q : InvX n h t nr rs X Y) : InvB n h t nr rs Y := ⟨q.1, q.2.1, q.2.2.1, q.2.2.2.1, q.2.2.2.2.2.2.2.2⟩
theorem InvB.now {n : Nat} {h h' : jx_H} {t nr : Nat} {rs : Nat → MR} {X' : MW} {Y : Nat → MW} (q : InvB n h t nr rs Y) (e : keepN h h') (r : rW h' 26 X') (m : mW (gN h') X') (w : wfW (n + 1) nr X') (l : lawOK h' X') : InvX (n + 1) h' t nr rs X' Y := by
  obtain ⟨q1, ⟨q2, q2'⟩, ⟨t1, t2, t3, t4⟩, ⟨r1, r2, r3, r4⟩, q9⟩ := q
  obtain ⟨⟨e1, e2⟩, e3, e4, e5, e6, e7⟩ := id e
  refine ⟨q1.eq e1 e2, ⟨by rw [e1]; omega, by rw [e7]; exact q2'⟩, ⟨t1, ?_, by rw [e5]; exact t3, ?_⟩, ⟨r1, ?_, by rw [e6]; exact r3, fun k hk => ?_⟩, r, m, w, l, fun k hk => ((q9 k hk).of e hk).up (by omega) (Nat.le_refl _)⟩
  · rw [e3 2 (by unfold kRow; omega)]; exact t2
  · rw [e3 3 (by unfold kRow; omega), e3 280 (by unfold kRow; omega)]; exact t4
  · rw [e3 1 (by unfold kRow; omega)]; exact r2
  · obtain ⟨a1, a2, a3⟩ := r4 k hk
    exact ⟨a1.of (fun b h1 h2 => e3 b (by unfold kRow; omega)), a2.of (fun b h1 h2 => e3 b (by unfold kRow; omega)), a3⟩
theorem keepN.of {h0 h1 h2 : jx_H} (a : fC cRow h0 h1) (b : fM h1 h2) : keepN h0 h2 := by
  have k : ∀ c, kRow c ∨ 253 ≤ c → h1.2.1 c = h0.2.1 c := fun c hc => a.2 c (fun z => hc.elim (fun y => z.1 y) (fun y => by have := z.2; omega))
  refine ⟨⟨b.1.1.trans a.1.1, b.1.2.trans a.1.2⟩, fun c hc => (b.2.1 c (Or.inr hc)).trans (k c (Or.inl hc)), fun i hi => (b.2.2.1 i hi).trans (by rw [k 302 (by omega)]), b.2.2.2.1.trans (by rw [k 253 (by omega)]), b.2.2.2.2.1.trans (by rw [k 253 (by omega)]), b.2.2.2.2.2.trans (by rw [k 253 (by omega)])⟩
theorem rW.m {h h' : jx_H} (b : fM h h') {w : Nat} {X : MW} (hw : w + 22 < 253) (r : rW h w X) : rW h' w X :=
  r.of (fun c hc => b.2.1 c (Or.inr (Or.inl hc))) (fun s _ hs => hs.eq b.1.1 b.1.2) (fun c _ h2 => b.2.1 c (by omega)) (by rw [b.1.2])
theorem mW.c {h h' : jx_H} (a : fC cRow h h') {X : MW} (m : mW (gN h) X) : mW (gN h') X := m.of (gN_of (fun b h1 h2 => a.2 b (fun z => by unfold cRow at z; omega)))
/-- references to other strips, other rules -/
theorem jx_Sp.rf {h h' : jx_H} {s : Nat} (H : jx_Sp h s) (e1 : h'.1 = h.1) (e2 : ∀ b, s ≤ b → b ≤ s + 12 → h'.2.2.2 b = h.2.2.2 b) : jx_Sp h' s := by
  unfold jx_Sp jx_Sp0 jx_La at H ⊢
  rw [e1, e2 s (by omega) (by omega), e2 (s + 8) (by omega) (by omega)]
  exact H
def rCell (a k : Nat) : Bool := a == 51 && (k == 0 || k == 1) || a == 107 && k == 4 || a == 4 && k == 1 || a == 18 && k == 1 || (a == 26 || a == 161 || a == 184 || a == 207 || a == 230) && k == 0
set_option maxRecDepth 100000 in
theorem jl_rC : ∀ q ∈ jl_R, rCell q.1 q.2.1 = false := by decide
theorem jx_St.wR {h : jx_H} (H : jx_St h) {a k : Nat} {v : Option Nat} (e : rCell a k = true) : jx_St (jx_wR h a k v) := by
  refine ⟨H.1, fun q hq => ?_⟩
  have h1 := H.2 q hq
  have h2 := jl_rC q hq
  show jx_row h.2.2.2 a (jx_up (h.2.2.2 a) k v) q.1 q.2.1 = some q.2.2
  by_cases c : q.1 = a
  · rw [c, jx_row_self]
    rw [c] at h1 h2
    by_cases c2 : q.2.1 = k
    · rw [c2, e] at h2
      cases h2
    · rw [jx_up_ne _ _ c2]; exact h1
  · rw [jx_row_ne _ _ c]; exact h1
theorem wR_ne (h : jx_H) {a b : Nat} (k : Nat) (v : Option Nat) (hb : b ≠ a) : (jx_wR h a k v).2.2.2 b = h.2.2.2 b := jx_row_ne _ _ hb
theorem wR_at (h : jx_H) (a k : Nat) (v : Option Nat) : (jx_wR h a k v).2.2.2 a = jx_up (h.2.2.2 a) k v := jx_row_self _ _ _
theorem rW.wR {h : jx_H} {w : Nat} {X : MW} (r : rW h w X) {a k : Nat} {v : Option Nat} (ha : ¬ sRow a ∧ a ≠ w) : rW (jx_wR h a k v) w X :=
  r.of (fun _ _ => rfl) (fun s hs hp => hp.rf rfl (fun b h1 h2 => wR_ne h k v (fun e => ha.1 (e ▸ sRow_of hs h1 h2)))) (fun _ _ _ => rfl) (by rw [wR_ne h k v (Ne.symm ha.2)])
theorem InvB.wR {n : Nat} {h : jx_H} {t nr : Nat} {rs : Nat → MR} {Y : Nat → MW} (q : InvB n h t nr rs Y) {a k : Nat} {v : Option Nat} (e : rCell a k = true) (ha : ¬ sRow a ∧ a < 125) : InvB n (jx_wR h a k v) t nr rs Y := by
  refine ⟨q.1.wR e, q.2.1, q.2.2.1, q.2.2.2.1, fun j hj => ?_⟩
  rcases q.2.2.2.2 j hj with z | ⟨z1, z2, z3, z4, z5⟩
  · exact Or.inl z
  · exact Or.inr ⟨z1, z2, z3.wR ⟨ha.1, by omega⟩, z4, z5⟩
/-- an operation, by what it does to the world of now -/
theorem jo_st {jc jm : Nat} {as : List Value} (f : ∀ n h t nr rs X Y, n < 512 → InvX n h t nr rs X Y → ∃ (v : Int32) (X' : MW) (h0 : jx_H), InvB n h0 t nr rs Y ∧ (h0.1 = h.1 ∧ h0.2.1 = h.2.1) ∧ wfW (n + 1) nr X' ∧ lawOK h0 X' ∧
    jx_Tr 199 13 206 jc (.ref 1 :: as) h (fun r h1 => r = some (.int v) ∧ fC cRow h0 h1 ∧ rW h1 26 X') ∧
    ∀ h1, jx_St h1 → (∀ b, 253 ≤ b → b ≤ 303 → h1.2.1 b = h.2.1 b) → mW (gN h1) X → jx_Tr 199 0 0 jm (.ref 253 :: as) h1 (fun r h2 => r = some (.int v) ∧ fM h1 h2 ∧ mW (gN h2) X')) : jo Inv jc jm as := by
  intro n h hn q
  obtain ⟨t, nr, rs, X, Y, q⟩ := q
  obtain ⟨v, X', h0, b0, ⟨e1, e2⟩, w, l, c, m⟩ := f n h t nr rs X Y hn q
  refine c.mono (fun r h1 hq => ?_)
  obtain ⟨rfl, f1, r1⟩ := hq
  have S1 := f1.St b0.1
  have g1 : ∀ b, 253 ≤ b → b ≤ 303 → h1.2.1 b = h.2.1 b := fun b h1 h2 => (f1.2 b (fun z => by unfold cRow at z; omega)).trans (by rw [e2])
  refine ⟨⟨?_, by rw [f1.1.1, e1], sK253 S1⟩, v, rfl, (m h1 S1 g1 (q.2.2.2.2.2.1.of (gN_of g1))).mono (fun r' h2 hq2 => ?_)⟩
  · exact (f1.2 0 (fun z => z.1 (by unfold kRow; omega))).trans (by rw [e2])
  obtain ⟨rfl, f2, r2⟩ := hq2
  exact ⟨rfl, by rw [f2.1.1], t, nr, rs, X', Y, b0.now (keepN.of f1 f2) (r1.m f2 (by omega)) r2 w (l.of (f2.1.2.trans f1.1.2) rfl rfl)⟩
def sumI (f : Nat → Int32) : Nat → Int32
  | 0 => 0
  | n + 1 => sumI f n + f n
theorem sumI_cg {f g : Nat → Int32} : ∀ {n : Nat}, (∀ j, j < n → f j = g j) → sumI f n = sumI g n
  | 0, _ => rfl
  | n + 1, e => by rw [sumI, sumI, sumI_cg (fun j hj => e j (by omega)), e n (by omega)]
theorem sumI_z {f : Nat → Int32} {a : Nat} : ∀ {n : Nat}, a ≤ n → (∀ j, a ≤ j → j < n → f j = 0) → sumI f n = sumI f a
  | 0, h, _ => by rw [show a = 0 by omega]
  | n + 1, h, e => by
    by_cases c : a = n + 1
    · rw [c]
    · rw [sumI, e n (by omega) (by omega), sumI_z (n := n) (by omega) (fun j h1 h2 => e j h1 (by omega))]
      simp
set_option maxHeartbeats 2000000 in
theorem t_La_allCrossed (d : Nat) {bc bs : Nat} {h : jx_H} {a : Nat} (A : jx_La h a) : jx_Tr (d + 1) bc bs 4007 [.ref a] h (fun r h' => r = some (.int (sumI (h.2.1 (a + 4)) 8)) ∧ h' = h) := by
  refine jx_tr jM_La_allCrossed rfl rfl (lv := [some (.ref a), none, none]) rfl ?_
  refine je_iconst (pc := 0) (v := 0) d4007_0 rfl ?_
  refine ju_istore1 (pc := 1) (lv' := [some _, some _, none]) d4007_1 rfl rfl ?_
  refine je_iconst (pc := 2) (v := 0) d4007_2 rfl ?_
  refine ju_istore2 (pc := 3) (lv' := [some _, some _, some _]) d4007_3 rfl rfl ?_
  refine je_loop (σ := Unit) (8) (fun k xx => [some (.ref a), some (.int (sumI (h.2.1 (a + 4)) k)), some (.int (nI k))]) (fun _ _ h' => h' = h) (fun k xx h' hk e kk => ?_) (fun xx h' e => ?_) (0) () h (by omega) rfl
  · obtain rfl := e.symm
    refine je_iload2 (pc := 4) d4007_4 rfl ?_
    refine je_bipush (pc := 5) (v := 8) d4007_5 rfl ?_
    refine ju_icge (pc := 7) 25 d4007_7 (by decide) (fun c7 => absurd c7 (fun z => z (nI_lt (a := k) (b := 8) hk (by decide)))) (fun c7 => ?_)
    refine je_iload1 (pc := 10) d4007_10 rfl ?_
    refine je_aload0 (pc := 11) d4007_11 rfl ?_
    refine ju_getr (pc := 12) (b := (a + 4)) d4007_12 jF_4_21 rfl A.1 A.2.2.2.2.2 ?_
    refine je_iload2 (pc := 15) d4007_15 rfl ?_
    refine ju_iald (pc := 16) (jn := k) d4007_16 A.2.2.2.2.1 (vp_in_nI (by omega) (by decide)) (nI_clamp (by omega)) ?_
    refine je_iadd (pc := 17) d4007_17 ?_
    refine ju_istore1 (pc := 18) (lv' := [some _, some _, some _]) d4007_18 rfl rfl ?_
    refine ju_inc (pc := 19) (y := 1) (lv' := [some _, some _, some _]) d4007_19 rfl rfl rfl ?_
    refine je_goto (pc := 22) 4 d4007_22 (by decide) ?_
    rw [nI_1 k]
    exact kk () h rfl
  · obtain rfl := e.symm
    refine je_iload2 (pc := 4) d4007_4 rfl ?_
    refine je_bipush (pc := 5) (v := 8) d4007_5 rfl ?_
    refine ju_icge (pc := 7) 25 d4007_7 (by decide) (fun c7 => ?_) (fun c7 => absurd c7 (nI_nlt (a := 8) (b := 8) (Nat.le_refl 8) (by decide)))
    refine je_iload1 (pc := 25) d4007_25 rfl ?_
    refine je_iret (pc := 26) d4007_26 rfl ?_
    exact ⟨rfl, rfl⟩
set_option maxHeartbeats 2000000 in
theorem t_Mo_crossedAll (d : Nat) {bc bs : Nat} {h : jx_H} {nv : Nat} (H : jx_St h) (hv : h.2.1 254 2 = nI nv) (hnv : nv ≤ 8) : jx_Tr (d + 1) bc bs 12111 [.ref 253] h (fun r h' => r = some (.int (sumI (h.2.1 262) nv)) ∧ h' = h) := by
  refine jx_tr jM_Mo_crossedAll rfl rfl (lv := [some (.ref 253), none, none]) rfl ?_
  refine je_iconst (pc := 0) (v := 0) d12111_0 rfl ?_
  refine ju_istore1 (pc := 1) (lv' := [some _, some _, none]) d12111_1 rfl rfl ?_
  refine je_iconst (pc := 2) (v := 0) d12111_2 rfl ?_
  refine ju_istore2 (pc := 3) (lv' := [some _, some _, some _]) d12111_3 rfl rfl ?_
  refine je_loop (σ := Unit) (nv) (fun k xx => [some (.ref 253), some (.int (sumI (h.2.1 262) k)), some (.int (nI k))]) (fun _ _ h' => h' = h) (fun k xx h' hk e kk => ?_) (fun xx h' e => ?_) (0) () h (by omega) rfl
  · obtain rfl := e.symm
    refine je_iload2 (pc := 4) d12111_4 rfl ?_
    refine je_aload0 (pc := 5) d12111_5 rfl ?_
    refine ju_getr (pc := 6) (b := 254) d12111_6 jF_12_9 rfl (sK253 H) (sR253_1 H) ?_
    refine je_iconst (pc := 9) (v := 2) d12111_9 rfl ?_
    refine ju_iald (pc := 10) (jn := 2) d12111_10 (sK254 H) (by first | assumption | exact jx_ok_dec (by decide)) (by decide) ?_
    refine ju_icge (pc := 11) 29 d12111_11 (by decide) (fun c11 => absurd c11 (by rw [hv]; exact fun z => z (nI_lt hk (by omega)))) (fun c11 => ?_)
    refine je_iload1 (pc := 14) d12111_14 rfl ?_
    refine je_aload0 (pc := 15) d12111_15 rfl ?_
    refine ju_getr (pc := 16) (b := 262) d12111_16 jF_12_34 rfl (sK253 H) (sR253_9 H) ?_
    refine je_iload2 (pc := 19) d12111_19 rfl ?_
    refine ju_iald (pc := 20) (jn := k) d12111_20 (sK262 H) (vp_in_nI (by omega) (by decide)) (nI_clamp (by omega)) ?_
    refine je_iadd (pc := 21) d12111_21 ?_
    refine ju_istore1 (pc := 22) (lv' := [some _, some _, some _]) d12111_22 rfl rfl ?_
    refine ju_inc (pc := 23) (y := 1) (lv' := [some _, some _, some _]) d12111_23 rfl rfl rfl ?_
    refine je_goto (pc := 26) 4 d12111_26 (by decide) ?_
    rw [nI_1 k]
    exact kk () h rfl
  · obtain rfl := e.symm
    refine je_iload2 (pc := 4) d12111_4 rfl ?_
    refine je_aload0 (pc := 5) d12111_5 rfl ?_
    refine ju_getr (pc := 6) (b := 254) d12111_6 jF_12_9 rfl (sK253 H) (sR253_1 H) ?_
    refine je_iconst (pc := 9) (v := 2) d12111_9 rfl ?_
    refine ju_iald (pc := 10) (jn := 2) d12111_10 (sK254 H) (by first | assumption | exact jx_ok_dec (by decide)) (by decide) ?_
    refine ju_icge (pc := 11) 29 d12111_11 (by decide) (fun c11 => ?_) (fun c11 => absurd c11 (by rw [hv]; exact nI_nlt (Nat.le_refl nv) (by omega)))
    refine je_iload1 (pc := 29) d12111_29 rfl ?_
    refine je_iret (pc := 30) d12111_30 rfl ?_
    exact ⟨rfl, rfl⟩
set_option maxHeartbeats 2000000 in
theorem t_Db_count (d : Nat) {bc bs : Nat} {h : jx_H} {s : Nat} (H : jx_St h) (hr : h.2.2.2 26 0 = some s) (P : jx_Sp h s) (x : Int32) : jx_Tr (d + 2) bc bs 39 [.ref 1, .int x] h (fun r h' => r = some (.int (if x = 0 then h.2.1 s 0 else if x = 1 then h.2.1 s 1 else if x = 2 then h.2.1 s 2 else if x = 3 then h.2.1 s 3 else if x = 4 then h.2.1 1 4 else if x = 5 then h.2.1 26 2 else if x = 6 then h.2.1 40 5 else if x = 7 then h.2.1 40 4 else if x = 8 then sumI (h.2.1 44) 8 else if x = 9 then h.2.1 26 4 else if x = 10 then h.2.1 26 10 else if x = 11 then h.2.1 26 3 else if x = 12 then h.2.1 2 1 else -1)) ∧ h' = h) := by
  refine jx_tr jM_Db_count rfl rfl (lv := [some (.ref 1), some (.int x)]) rfl ?_
  refine je_iload1 (pc := 0) d39_0 rfl ?_
  by_cases s1_0 : x = 0
  · refine je_table (pc := 1) 68 d39_1 (by rw [s1_0]; decide) (by rw [s1_0]; decide) (off := 67) (by rw [s1_0]; rfl) (by decide) ?_
    refine je_aload0 (pc := 68) d39_68 rfl ?_
    refine ju_getr (pc := 69) (b := 26) d39_69 jF_0_41 rfl (sK1 H) (sR1_5 H) ?_
    refine ju_getr (pc := 72) (b := s) d39_72 jF_0_143 rfl (sK26 H) hr ?_
    refine ju_geti (pc := 75) d39_75 jF_0_293 rfl P.1.1 ?_
    refine je_iret (pc := 78) d39_78 rfl ?_
    exact ⟨by rw [if_pos s1_0], rfl⟩
  by_cases s1_1 : x = 1
  · refine je_table (pc := 1) 79 d39_1 (by rw [s1_1]; decide) (by rw [s1_1]; decide) (off := 78) (by rw [s1_1]; rfl) (by decide) ?_
    refine je_aload0 (pc := 79) d39_79 rfl ?_
    refine ju_getr (pc := 80) (b := 26) d39_80 jF_0_41 rfl (sK1 H) (sR1_5 H) ?_
    refine ju_getr (pc := 83) (b := s) d39_83 jF_0_143 rfl (sK26 H) hr ?_
    refine ju_geti (pc := 86) d39_86 jF_0_311 rfl P.1.1 ?_
    refine je_iret (pc := 89) d39_89 rfl ?_
    exact ⟨by rw [if_neg s1_0, if_pos s1_1], rfl⟩
  by_cases s1_2 : x = 2
  · refine je_table (pc := 1) 90 d39_1 (by rw [s1_2]; decide) (by rw [s1_2]; decide) (off := 89) (by rw [s1_2]; rfl) (by decide) ?_
    refine je_aload0 (pc := 90) d39_90 rfl ?_
    refine ju_getr (pc := 91) (b := 26) d39_91 jF_0_41 rfl (sK1 H) (sR1_5 H) ?_
    refine ju_getr (pc := 94) (b := s) d39_94 jF_0_143 rfl (sK26 H) hr ?_
    refine ju_geti (pc := 97) d39_97 jF_0_106 rfl P.1.1 ?_
    refine je_iret (pc := 100) d39_100 rfl ?_
    exact ⟨by rw [if_neg s1_0, if_neg s1_1, if_pos s1_2], rfl⟩
  by_cases s1_3 : x = 3
  · refine je_table (pc := 1) 101 d39_1 (by rw [s1_3]; decide) (by rw [s1_3]; decide) (off := 100) (by rw [s1_3]; rfl) (by decide) ?_
    refine je_aload0 (pc := 101) d39_101 rfl ?_
    refine ju_getr (pc := 102) (b := 26) d39_102 jF_0_41 rfl (sK1 H) (sR1_5 H) ?_
    refine ju_getr (pc := 105) (b := s) d39_105 jF_0_143 rfl (sK26 H) hr ?_
    refine ju_geti (pc := 108) d39_108 jF_0_314 rfl P.1.1 ?_
    refine je_iret (pc := 111) d39_111 rfl ?_
    exact ⟨by rw [if_neg s1_0, if_neg s1_1, if_neg s1_2, if_pos s1_3], rfl⟩
  by_cases s1_4 : x = 4
  · refine je_table (pc := 1) 112 d39_1 (by rw [s1_4]; decide) (by rw [s1_4]; decide) (off := 111) (by rw [s1_4]; rfl) (by decide) ?_
    refine je_aload0 (pc := 112) d39_112 rfl ?_
    refine ju_geti (pc := 113) d39_113 jF_0_111 rfl (sK1 H) ?_
    refine je_iret (pc := 116) d39_116 rfl ?_
    exact ⟨by rw [if_neg s1_0, if_neg s1_1, if_neg s1_2, if_neg s1_3, if_pos s1_4], rfl⟩
  by_cases s1_5 : x = 5
  · refine je_table (pc := 1) 117 d39_1 (by rw [s1_5]; decide) (by rw [s1_5]; decide) (off := 116) (by rw [s1_5]; rfl) (by decide) ?_
    refine je_aload0 (pc := 117) d39_117 rfl ?_
    refine ju_getr (pc := 118) (b := 26) d39_118 jF_0_41 rfl (sK1 H) (sR1_5 H) ?_
    refine ju_geti (pc := 121) d39_121 jF_0_117 rfl (sK26 H) ?_
    refine je_iret (pc := 124) d39_124 rfl ?_
    exact ⟨by rw [if_neg s1_0, if_neg s1_1, if_neg s1_2, if_neg s1_3, if_neg s1_4, if_pos s1_5], rfl⟩
  by_cases s1_6 : x = 6
  · refine je_table (pc := 1) 125 d39_1 (by rw [s1_6]; decide) (by rw [s1_6]; decide) (off := 124) (by rw [s1_6]; rfl) (by decide) ?_
    refine je_aload0 (pc := 125) d39_125 rfl ?_
    refine ju_getr (pc := 126) (b := 26) d39_126 jF_0_41 rfl (sK1 H) (sR1_5 H) ?_
    refine ju_getr (pc := 129) (b := 40) d39_129 jF_0_124 rfl (sK26 H) (sR26_1 H) ?_
    refine ju_geti (pc := 132) d39_132 jF_0_177 rfl (sK40 H) ?_
    refine je_iret (pc := 135) d39_135 rfl ?_
    exact ⟨by rw [if_neg s1_0, if_neg s1_1, if_neg s1_2, if_neg s1_3, if_neg s1_4, if_neg s1_5, if_pos s1_6], rfl⟩
  by_cases s1_7 : x = 7
  · refine je_table (pc := 1) 136 d39_1 (by rw [s1_7]; decide) (by rw [s1_7]; decide) (off := 135) (by rw [s1_7]; rfl) (by decide) ?_
    refine je_aload0 (pc := 136) d39_136 rfl ?_
    refine ju_getr (pc := 137) (b := 26) d39_137 jF_0_41 rfl (sK1 H) (sR1_5 H) ?_
    refine ju_getr (pc := 140) (b := 40) d39_140 jF_0_124 rfl (sK26 H) (sR26_1 H) ?_
    refine ju_geti (pc := 143) d39_143 jF_0_217 rfl (sK40 H) ?_
    refine je_iret (pc := 146) d39_146 rfl ?_
    exact ⟨by rw [if_neg s1_0, if_neg s1_1, if_neg s1_2, if_neg s1_3, if_neg s1_4, if_neg s1_5, if_neg s1_6, if_pos s1_7], rfl⟩
  by_cases s1_8 : x = 8
  · refine je_table (pc := 1) 147 d39_1 (by rw [s1_8]; decide) (by rw [s1_8]; decide) (off := 146) (by rw [s1_8]; rfl) (by decide) ?_
    refine je_aload0 (pc := 147) d39_147 rfl ?_
    refine ju_getr (pc := 148) (b := 26) d39_148 jF_0_41 rfl (sK1 H) (sR1_5 H) ?_
    refine ju_getr (pc := 151) (b := 40) d39_151 jF_0_124 rfl (sK26 H) (sR26_1 H) ?_
    refine ju_callv (pc := 154) (as := []) d39_154 jL_0_317 jM_La_allCrossed rfl (by decide) (sK40 H) rfl (by exact Nat.le_of_ble_eq_true rfl) (t_La_allCrossed (d + 0) (sL40 H)) (fun r154 h154 q154 => ?_)
    obtain ⟨rfl, e154⟩ := q154
    obtain rfl := e154.symm
    refine je_iret (pc := 157) d39_157 rfl ?_
    exact ⟨by rw [if_neg s1_0, if_neg s1_1, if_neg s1_2, if_neg s1_3, if_neg s1_4, if_neg s1_5, if_neg s1_6, if_neg s1_7, if_pos s1_8], rfl⟩
  by_cases s1_9 : x = 9
  · refine je_table (pc := 1) 158 d39_1 (by rw [s1_9]; decide) (by rw [s1_9]; decide) (off := 157) (by rw [s1_9]; rfl) (by decide) ?_
    refine je_aload0 (pc := 158) d39_158 rfl ?_
    refine ju_getr (pc := 159) (b := 26) d39_159 jF_0_41 rfl (sK1 H) (sR1_5 H) ?_
    refine ju_geti (pc := 162) d39_162 jF_0_248 rfl (sK26 H) ?_
    refine je_iret (pc := 165) d39_165 rfl ?_
    exact ⟨by rw [if_neg s1_0, if_neg s1_1, if_neg s1_2, if_neg s1_3, if_neg s1_4, if_neg s1_5, if_neg s1_6, if_neg s1_7, if_neg s1_8, if_pos s1_9], rfl⟩
  by_cases s1_10 : x = 10
  · refine je_table (pc := 1) 166 d39_1 (by rw [s1_10]; decide) (by rw [s1_10]; decide) (off := 165) (by rw [s1_10]; rfl) (by decide) ?_
    refine je_aload0 (pc := 166) d39_166 rfl ?_
    refine ju_getr (pc := 167) (b := 26) d39_167 jF_0_41 rfl (sK1 H) (sR1_5 H) ?_
    refine ju_geti (pc := 170) d39_170 jF_0_220 rfl (sK26 H) ?_
    refine je_iret (pc := 173) d39_173 rfl ?_
    exact ⟨by rw [if_neg s1_0, if_neg s1_1, if_neg s1_2, if_neg s1_3, if_neg s1_4, if_neg s1_5, if_neg s1_6, if_neg s1_7, if_neg s1_8, if_neg s1_9, if_pos s1_10], rfl⟩
  by_cases s1_11 : x = 11
  · refine je_table (pc := 1) 174 d39_1 (by rw [s1_11]; decide) (by rw [s1_11]; decide) (off := 173) (by rw [s1_11]; rfl) (by decide) ?_
    refine je_aload0 (pc := 174) d39_174 rfl ?_
    refine ju_getr (pc := 175) (b := 26) d39_175 jF_0_41 rfl (sK1 H) (sR1_5 H) ?_
    refine ju_geti (pc := 178) d39_178 jF_0_298 rfl (sK26 H) ?_
    refine je_iret (pc := 181) d39_181 rfl ?_
    exact ⟨by rw [if_neg s1_0, if_neg s1_1, if_neg s1_2, if_neg s1_3, if_neg s1_4, if_neg s1_5, if_neg s1_6, if_neg s1_7, if_neg s1_8, if_neg s1_9, if_neg s1_10, if_pos s1_11], rfl⟩
  by_cases s1_12 : x = 12
  · refine je_table (pc := 1) 182 d39_1 (by rw [s1_12]; decide) (by rw [s1_12]; decide) (off := 181) (by rw [s1_12]; rfl) (by decide) ?_
    refine je_aload0 (pc := 182) d39_182 rfl ?_
    refine ju_getr (pc := 183) (b := 2) d39_183 jF_0_10 rfl (sK1 H) (sR1_0 H) ?_
    refine ju_geti (pc := 186) d39_186 jF_0_84 rfl (sK2 H) ?_
    refine je_iret (pc := 189) d39_189 rfl ?_
    exact ⟨by rw [if_neg s1_0, if_neg s1_1, if_neg s1_2, if_neg s1_3, if_neg s1_4, if_neg s1_5, if_neg s1_6, if_neg s1_7, if_neg s1_8, if_neg s1_9, if_neg s1_10, if_neg s1_11, if_pos s1_12], rfl⟩
  have ns1_0 := lv_neT s1_0 (a := 0) rfl
  have ns1_1 := lv_neT s1_1 (a := 1) rfl
  have ns1_2 := lv_neT s1_2 (a := 2) rfl
  have ns1_3 := lv_neT s1_3 (a := 3) rfl
  have ns1_4 := lv_neT s1_4 (a := 4) rfl
  have ns1_5 := lv_neT s1_5 (a := 5) rfl
  have ns1_6 := lv_neT s1_6 (a := 6) rfl
  have ns1_7 := lv_neT s1_7 (a := 7) rfl
  have ns1_8 := lv_neT s1_8 (a := 8) rfl
  have ns1_9 := lv_neT s1_9 (a := 9) rfl
  have ns1_10 := lv_neT s1_10 (a := 10) rfl
  have ns1_11 := lv_neT s1_11 (a := 11) rfl
  have ns1_12 := lv_neT s1_12 (a := 12) rfl
  refine je_tableO (pc := 1) 190 d39_1 (by omega) (by decide) ?_
  refine je_iconst (pc := 190) (v := -1) d39_190 rfl ?_
  refine je_iret (pc := 191) d39_191 rfl ?_
  exact ⟨by rw [if_neg s1_0, if_neg s1_1, if_neg s1_2, if_neg s1_3, if_neg s1_4, if_neg s1_5, if_neg s1_6, if_neg s1_7, if_neg s1_8, if_neg s1_9, if_neg s1_10, if_neg s1_11, if_neg s1_12], rfl⟩
set_option maxHeartbeats 2000000 in
theorem t_Mo_count (d : Nat) {bc bs : Nat} {h : jx_H} {nv : Nat} (H : jx_St h) (hv : h.2.1 254 2 = nI nv) (hnv : nv ≤ 8) (x : Int32) : jx_Tr (d + 2) bc bs 12110 [.ref 253, .int x] h (fun r h' => r = some (.int (if x = 0 then h.2.1 254 0 else if x = 1 then h.2.1 254 1 else if x = 2 then h.2.1 254 2 else if x = 3 then h.2.1 254 3 else if x = 4 then h.2.1 253 31 else if x = 5 then h.2.1 254 8 else if x = 6 then h.2.1 254 5 else if x = 7 then h.2.1 254 4 else if x = 8 then sumI (h.2.1 262) nv else if x = 9 then h.2.1 254 6 else if x = 10 then h.2.1 253 51 else if x = 11 then h.2.1 254 7 else if x = 12 then h.2.1 253 27 else -1)) ∧ h' = h) := by
  refine jx_tr jM_Mo_count rfl rfl (lv := [some (.ref 253), some (.int x)]) rfl ?_
  refine je_iload1 (pc := 0) d12110_0 rfl ?_
  by_cases s1_0 : x = 0
  · refine je_table (pc := 1) 68 d12110_1 (by rw [s1_0]; decide) (by rw [s1_0]; decide) (off := 67) (by rw [s1_0]; rfl) (by decide) ?_
    refine je_aload0 (pc := 68) d12110_68 rfl ?_
    refine ju_getr (pc := 69) (b := 254) d12110_69 jF_12_9 rfl (sK253 H) (sR253_1 H) ?_
    refine je_iconst (pc := 72) (v := 0) d12110_72 rfl ?_
    refine ju_iald (pc := 73) (jn := 0) d12110_73 (sK254 H) (by first | assumption | exact jx_ok_dec (by decide)) (by decide) ?_
    refine je_iret (pc := 74) d12110_74 rfl ?_
    exact ⟨by rw [if_pos s1_0], rfl⟩
  by_cases s1_1 : x = 1
  · refine je_table (pc := 1) 75 d12110_1 (by rw [s1_1]; decide) (by rw [s1_1]; decide) (off := 74) (by rw [s1_1]; rfl) (by decide) ?_
    refine je_aload0 (pc := 75) d12110_75 rfl ?_
    refine ju_getr (pc := 76) (b := 254) d12110_76 jF_12_9 rfl (sK253 H) (sR253_1 H) ?_
    refine je_iconst (pc := 79) (v := 1) d12110_79 rfl ?_
    refine ju_iald (pc := 80) (jn := 1) d12110_80 (sK254 H) (by first | assumption | exact jx_ok_dec (by decide)) (by decide) ?_
    refine je_iret (pc := 81) d12110_81 rfl ?_
    exact ⟨by rw [if_neg s1_0, if_pos s1_1], rfl⟩
  by_cases s1_2 : x = 2
  · refine je_table (pc := 1) 82 d12110_1 (by rw [s1_2]; decide) (by rw [s1_2]; decide) (off := 81) (by rw [s1_2]; rfl) (by decide) ?_
    refine je_aload0 (pc := 82) d12110_82 rfl ?_
    refine ju_getr (pc := 83) (b := 254) d12110_83 jF_12_9 rfl (sK253 H) (sR253_1 H) ?_
    refine je_iconst (pc := 86) (v := 2) d12110_86 rfl ?_
    refine ju_iald (pc := 87) (jn := 2) d12110_87 (sK254 H) (by first | assumption | exact jx_ok_dec (by decide)) (by decide) ?_
    refine je_iret (pc := 88) d12110_88 rfl ?_
    exact ⟨by rw [if_neg s1_0, if_neg s1_1, if_pos s1_2], rfl⟩
  by_cases s1_3 : x = 3
  · refine je_table (pc := 1) 89 d12110_1 (by rw [s1_3]; decide) (by rw [s1_3]; decide) (off := 88) (by rw [s1_3]; rfl) (by decide) ?_
    refine je_aload0 (pc := 89) d12110_89 rfl ?_
    refine ju_getr (pc := 90) (b := 254) d12110_90 jF_12_9 rfl (sK253 H) (sR253_1 H) ?_
    refine je_iconst (pc := 93) (v := 3) d12110_93 rfl ?_
    refine ju_iald (pc := 94) (jn := 3) d12110_94 (sK254 H) (by first | assumption | exact jx_ok_dec (by decide)) (by decide) ?_
    refine je_iret (pc := 95) d12110_95 rfl ?_
    exact ⟨by rw [if_neg s1_0, if_neg s1_1, if_neg s1_2, if_pos s1_3], rfl⟩
  by_cases s1_4 : x = 4
  · refine je_table (pc := 1) 96 d12110_1 (by rw [s1_4]; decide) (by rw [s1_4]; decide) (off := 95) (by rw [s1_4]; rfl) (by decide) ?_
    refine je_aload0 (pc := 96) d12110_96 rfl ?_
    refine ju_geti (pc := 97) d12110_97 jF_12_374 rfl (sK253 H) ?_
    refine je_iret (pc := 100) d12110_100 rfl ?_
    exact ⟨by rw [if_neg s1_0, if_neg s1_1, if_neg s1_2, if_neg s1_3, if_pos s1_4], rfl⟩
  by_cases s1_5 : x = 5
  · refine je_table (pc := 1) 101 d12110_1 (by rw [s1_5]; decide) (by rw [s1_5]; decide) (off := 100) (by rw [s1_5]; rfl) (by decide) ?_
    refine je_aload0 (pc := 101) d12110_101 rfl ?_
    refine ju_getr (pc := 102) (b := 254) d12110_102 jF_12_9 rfl (sK253 H) (sR253_1 H) ?_
    refine je_bipush (pc := 105) (v := 8) d12110_105 rfl ?_
    refine ju_iald (pc := 107) (jn := 8) d12110_107 (sK254 H) (by first | assumption | exact jx_ok_dec (by decide)) (by decide) ?_
    refine je_iret (pc := 108) d12110_108 rfl ?_
    exact ⟨by rw [if_neg s1_0, if_neg s1_1, if_neg s1_2, if_neg s1_3, if_neg s1_4, if_pos s1_5], rfl⟩
  by_cases s1_6 : x = 6
  · refine je_table (pc := 1) 109 d12110_1 (by rw [s1_6]; decide) (by rw [s1_6]; decide) (off := 108) (by rw [s1_6]; rfl) (by decide) ?_
    refine je_aload0 (pc := 109) d12110_109 rfl ?_
    refine ju_getr (pc := 110) (b := 254) d12110_110 jF_12_9 rfl (sK253 H) (sR253_1 H) ?_
    refine je_iconst (pc := 113) (v := 5) d12110_113 rfl ?_
    refine ju_iald (pc := 114) (jn := 5) d12110_114 (sK254 H) (by first | assumption | exact jx_ok_dec (by decide)) (by decide) ?_
    refine je_iret (pc := 115) d12110_115 rfl ?_
    exact ⟨by rw [if_neg s1_0, if_neg s1_1, if_neg s1_2, if_neg s1_3, if_neg s1_4, if_neg s1_5, if_pos s1_6], rfl⟩
  by_cases s1_7 : x = 7
  · refine je_table (pc := 1) 116 d12110_1 (by rw [s1_7]; decide) (by rw [s1_7]; decide) (off := 115) (by rw [s1_7]; rfl) (by decide) ?_
    refine je_aload0 (pc := 116) d12110_116 rfl ?_
    refine ju_getr (pc := 117) (b := 254) d12110_117 jF_12_9 rfl (sK253 H) (sR253_1 H) ?_
    refine je_iconst (pc := 120) (v := 4) d12110_120 rfl ?_
    refine ju_iald (pc := 121) (jn := 4) d12110_121 (sK254 H) (by first | assumption | exact jx_ok_dec (by decide)) (by decide) ?_
    refine je_iret (pc := 122) d12110_122 rfl ?_
    exact ⟨by rw [if_neg s1_0, if_neg s1_1, if_neg s1_2, if_neg s1_3, if_neg s1_4, if_neg s1_5, if_neg s1_6, if_pos s1_7], rfl⟩
  by_cases s1_8 : x = 8
  · refine je_table (pc := 1) 123 d12110_1 (by rw [s1_8]; decide) (by rw [s1_8]; decide) (off := 122) (by rw [s1_8]; rfl) (by decide) ?_
    refine je_aload0 (pc := 123) d12110_123 rfl ?_
    refine ju_callv (pc := 124) (as := []) d12110_124 jL_12_561 jM_Mo_crossedAll rfl (by decide) (sK253 H) rfl (by exact Nat.le_of_ble_eq_true rfl) (t_Mo_crossedAll (d + 0) H hv hnv) (fun r124 h124 q124 => ?_)
    obtain ⟨rfl, e124⟩ := q124
    obtain rfl := e124.symm
    refine je_iret (pc := 127) d12110_127 rfl ?_
    exact ⟨by rw [if_neg s1_0, if_neg s1_1, if_neg s1_2, if_neg s1_3, if_neg s1_4, if_neg s1_5, if_neg s1_6, if_neg s1_7, if_pos s1_8], rfl⟩
  by_cases s1_9 : x = 9
  · refine je_table (pc := 1) 128 d12110_1 (by rw [s1_9]; decide) (by rw [s1_9]; decide) (off := 127) (by rw [s1_9]; rfl) (by decide) ?_
    refine je_aload0 (pc := 128) d12110_128 rfl ?_
    refine ju_getr (pc := 129) (b := 254) d12110_129 jF_12_9 rfl (sK253 H) (sR253_1 H) ?_
    refine je_bipush (pc := 132) (v := 6) d12110_132 rfl ?_
    refine ju_iald (pc := 134) (jn := 6) d12110_134 (sK254 H) (by first | assumption | exact jx_ok_dec (by decide)) (by decide) ?_
    refine je_iret (pc := 135) d12110_135 rfl ?_
    exact ⟨by rw [if_neg s1_0, if_neg s1_1, if_neg s1_2, if_neg s1_3, if_neg s1_4, if_neg s1_5, if_neg s1_6, if_neg s1_7, if_neg s1_8, if_pos s1_9], rfl⟩
  by_cases s1_10 : x = 10
  · refine je_table (pc := 1) 136 d12110_1 (by rw [s1_10]; decide) (by rw [s1_10]; decide) (off := 135) (by rw [s1_10]; rfl) (by decide) ?_
    refine je_aload0 (pc := 136) d12110_136 rfl ?_
    refine ju_geti (pc := 137) d12110_137 jF_12_361 rfl (sK253 H) ?_
    refine je_iret (pc := 140) d12110_140 rfl ?_
    exact ⟨by rw [if_neg s1_0, if_neg s1_1, if_neg s1_2, if_neg s1_3, if_neg s1_4, if_neg s1_5, if_neg s1_6, if_neg s1_7, if_neg s1_8, if_neg s1_9, if_pos s1_10], rfl⟩
  by_cases s1_11 : x = 11
  · refine je_table (pc := 1) 141 d12110_1 (by rw [s1_11]; decide) (by rw [s1_11]; decide) (off := 140) (by rw [s1_11]; rfl) (by decide) ?_
    refine je_aload0 (pc := 141) d12110_141 rfl ?_
    refine ju_getr (pc := 142) (b := 254) d12110_142 jF_12_9 rfl (sK253 H) (sR253_1 H) ?_
    refine je_bipush (pc := 145) (v := 7) d12110_145 rfl ?_
    refine ju_iald (pc := 147) (jn := 7) d12110_147 (sK254 H) (by first | assumption | exact jx_ok_dec (by decide)) (by decide) ?_
    refine je_iret (pc := 148) d12110_148 rfl ?_
    exact ⟨by rw [if_neg s1_0, if_neg s1_1, if_neg s1_2, if_neg s1_3, if_neg s1_4, if_neg s1_5, if_neg s1_6, if_neg s1_7, if_neg s1_8, if_neg s1_9, if_neg s1_10, if_pos s1_11], rfl⟩
  by_cases s1_12 : x = 12
  · refine je_table (pc := 1) 149 d12110_1 (by rw [s1_12]; decide) (by rw [s1_12]; decide) (off := 148) (by rw [s1_12]; rfl) (by decide) ?_
    refine je_aload0 (pc := 149) d12110_149 rfl ?_
    refine ju_geti (pc := 150) d12110_150 jF_12_185 rfl (sK253 H) ?_
    refine je_iret (pc := 153) d12110_153 rfl ?_
    exact ⟨by rw [if_neg s1_0, if_neg s1_1, if_neg s1_2, if_neg s1_3, if_neg s1_4, if_neg s1_5, if_neg s1_6, if_neg s1_7, if_neg s1_8, if_neg s1_9, if_neg s1_10, if_neg s1_11, if_pos s1_12], rfl⟩
  have ns1_0 := lv_neT s1_0 (a := 0) rfl
  have ns1_1 := lv_neT s1_1 (a := 1) rfl
  have ns1_2 := lv_neT s1_2 (a := 2) rfl
  have ns1_3 := lv_neT s1_3 (a := 3) rfl
  have ns1_4 := lv_neT s1_4 (a := 4) rfl
  have ns1_5 := lv_neT s1_5 (a := 5) rfl
  have ns1_6 := lv_neT s1_6 (a := 6) rfl
  have ns1_7 := lv_neT s1_7 (a := 7) rfl
  have ns1_8 := lv_neT s1_8 (a := 8) rfl
  have ns1_9 := lv_neT s1_9 (a := 9) rfl
  have ns1_10 := lv_neT s1_10 (a := 10) rfl
  have ns1_11 := lv_neT s1_11 (a := 11) rfl
  have ns1_12 := lv_neT s1_12 (a := 12) rfl
  refine je_tableO (pc := 1) 154 d12110_1 (by omega) (by decide) ?_
  refine je_iconst (pc := 154) (v := -1) d12110_154 rfl ?_
  refine je_iret (pc := 155) d12110_155 rfl ?_
  exact ⟨by rw [if_neg s1_0, if_neg s1_1, if_neg s1_2, if_neg s1_3, if_neg s1_4, if_neg s1_5, if_neg s1_6, if_neg s1_7, if_neg s1_8, if_neg s1_9, if_neg s1_10, if_neg s1_11, if_neg s1_12], rfl⟩
theorem op_count (x : Int32) : jo Inv 39 12110 [.int x] := jo_ro (fun n h t nr rs X Y q => by
  obtain ⟨s, r1, r2, r3, ⟨⟨a1, a2, a3, a4⟩, -⟩, l1, l2, l3, l4, l5, l6⟩ := q.cl
  obtain ⟨⟨⟨m1, m2, m3, m4⟩, -⟩, ⟨k1, k2, k3, k4⟩⟩ := q.mo
  obtain ⟨b1, b2', b3⟩ := q.mi
  obtain ⟨-, -, ⟨t1, t2, t3, -⟩, ⟨u1, u2, u3, -⟩, ⟨-, -, ⟨f1, f2⟩, ⟨g1, -⟩, ⟨o, -, -, o2, -⟩⟩, ⟨-, -, ⟨v1, v2⟩, ⟨v3, -⟩, ⟨v4, -⟩⟩, ⟨-, ⟨-, wc, -⟩, -⟩, -⟩ := id q
  refine ⟨_, t_Db_count 197 q.1 r1 r3 x, (t_Mo_count 197 q.1 m3 b2' x).mono (fun r h' e => ⟨?_, e.2⟩)⟩
  have e8 : sumI (h.2.1 44) 8 = sumI (h.2.1 262) X.1.1.2.1 := by
    rw [sumI_z (a := X.1.1.2.1) b2' (fun j h1 h2 => (l4 j h2).trans ((wc j h2).2 h1))]
    exact sumI_cg (fun j hj => (l4 j (by omega)).trans (k2 j (by omega)).symm)
  have p1 : h.2.1 253 51 = h.2.1 26 10 := v4.trans o2.symm
  have v1' : h.2.1 254 8 = h.2.1 26 2 := v1.trans f1.symm
  have v2' : h.2.1 254 7 = h.2.1 26 3 := v2.trans f2.symm
  have v3' : h.2.1 254 6 = h.2.1 26 4 := v3.trans g1.symm
  rw [e.1, e8, m1, m2, m3, m4, a1, a2, a3, a4, t2, t3, u2, u3, v1', v2', v3', p1, k3, k4, l5, l6])
