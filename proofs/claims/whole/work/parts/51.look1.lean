/-! looking ahead: what is kept; ahead -/
def nxF (S : MS) (R : Option MR) (L : ML) : ML := nightF S R (warmF S L.2.2.2.2.2) L
def nitF (S : MS) (R : Option MR) : Nat → ML → ML
  | 0, L => L
  | k + 1, L => nxF S R (nitF S R k L)
theorem nit_n {S : MS} {R : Option MR} {L : ML} {nn : Nat} (h : L.2.2.2.2.2 = nI nn) : ∀ k, (nitF S R k L).2.2.2.2.2 = nI (nn + k)
  | 0 => h
  | k + 1 => by
    show (nitF S R k L).2.2.2.2.2 + 1 = _
    rw [nit_n h k, nI_1]
    rfl
theorem nit_b {S : MS} {R : Option MR} {L : ML} : ∀ k, (nitF S R k L).2.2.2.2.1 = L.2.2.2.2.1
  | 0 => rfl
  | k + 1 => nit_b k
theorem wfL.nit {n : Nat} {S : MS} {R : Option MR} {L : ML} (wS : wfS S) (hmi : S.1.1 ≤ 10) (l : wfL n S.1.1 S.1.2.1 L) : ∀ {k : Nat}, n + k < 100000 → wfL (n + k) S.1.1 S.1.2.1 (nitF S R k L)
  | 0, _ => l
  | k + 1, h => (wfL.nit wS hmi l (k := k) (by omega)).night hmi (show n + k < 100000 by omega) (warmF_bd wS _)
/-- crossings in all -/
def ctF (S : MS) (R : Option MR) (L : ML) : Nat → Nat
  | 0 => 0
  | k + 1 => ctF S R L k + cnN S (nitF S R k L).1 (nitF S R (k + 1) L).1 S.1.2.1
theorem cnN_le (S : MS) (l l' : Nat → Int32) (n : Nat) : cnN S l l' n ≤ n := fa_cnt_le _ n
theorem ctF_le {S : MS} {R : Option MR} {L : ML} : ∀ k, ctF S R L k ≤ S.1.2.1 * k
  | 0 => Nat.le_refl _
  | k + 1 => by
    have h1 := ctF_le (S := S) (R := R) (L := L) k
    have h2 := cnN_le S (nitF S R k L).1 (nitF S R (k + 1) L).1 S.1.2.1
    rw [ctF, Nat.mul_succ]
    omega
/-- what looking ahead may change in the model -/
def fL (g h : jx_H) : Prop := fC (fun b => (253 ≤ b ∧ b ≤ 257) ∨ b = 262 ∨ (290 ≤ b ∧ b ≤ 291) ∨ (293 ≤ b ∧ b ≤ 302)) g h ∧ (∀ j, j < 54 → h.2.1 253 j = g.2.1 253 j) ∧ ∀ i, i < 4400 → h.2.1 302 i = g.2.1 302 i
def kpt (g h : jx_H) : Prop := (∀ j, j < 9 → h.2.1 302 (4400 + j) = g.2.1 254 j) ∧ (∀ m, m < 10 → h.2.1 302 (4409 + m) = g.2.1 255 m ∧ h.2.1 302 (4419 + m) = g.2.1 256 m ∧ h.2.1 302 (4429 + m) = g.2.1 257 m) ∧ ∀ v, v < 8 → h.2.1 302 (4439 + v) = g.2.1 262 v
def mLk (g h : jx_H) (L : ML) : Prop := fL g h ∧ kpt g h ∧ (∀ j, j < 4 ∨ j = 8 → h.2.1 254 j = g.2.1 254 j) ∧ mLa h.2.1 L
theorem kpt.fr {g h h' : jx_H} (q : kpt g h) (e : h'.2.1 302 = h.2.1 302) : kpt g h' := by unfold kpt at q ⊢; rw [e]; exact q
theorem fL.tr {g h h' : jx_H} (a : fL g h) {A : Nat → Prop} (b : fC A h h') (hA : ∀ b, A b → (254 ≤ b ∧ b ≤ 257) ∨ b = 262 ∨ (290 ≤ b ∧ b ≤ 291) ∨ (293 ≤ b ∧ b ≤ 301)) : fL g h' :=
  ⟨a.1.tr (b.mo (fun b hb => by have := hA b hb; omega)), fun j hj => by rw [b.2 253 (fun z => by have := hA _ z; omega)]; exact a.2.1 j hj, fun i hi => by rw [b.2 302 (fun z => by have := hA _ z; omega)]; exact a.2.2 i hi⟩
theorem mLk.fr {g h h' : jx_H} {L L' : ML} (q : mLk g h L) {A : Nat → Prop} (b : fC A h h') (hA : ∀ b, A b → (254 ≤ b ∧ b ≤ 257) ∨ b = 262 ∨ (290 ≤ b ∧ b ≤ 291) ∨ (293 ≤ b ∧ b ≤ 301)) (e : ∀ j, j < 4 ∨ j = 8 → h'.2.1 254 j = h.2.1 254 j) (l : mLa h'.2.1 L') : mLk g h' L' :=
  ⟨q.1.tr b hA, q.2.1.fr (b.2 302 (fun z => by have := hA _ z; omega)), fun j hj => (e j hj).trans (q.2.2.1 j hj), l⟩
theorem mLk.N {g h h' : jx_H} {L L' : ML} (q : mLk g h L) (f : fN h h') (l : mLa h'.2.1 L') : mLk g h' L' := q.fr f.1 (fun b hb => by omega) (fun j hj => f.2 j (by omega)) l
theorem mLk.law {g h : jx_H} {L : ML} {S : MS} {R : Option MR} (q : mLk g h L) (C : mLaw g S R) : mLaw h S R := C.fr (fun b hb => q.1.1.2 b (by omega)) q.2.2.1
theorem mLk.St {g h : jx_H} {L : ML} (q : mLk g h L) (H : jx_St g) : jx_St h := q.1.1.St H
theorem mLk.fin {g h : jx_H} {X : MW} (q : mLk g h X.2.1) (e : ∀ j, j < 9 → h.2.1 254 j = g.2.1 254 j) (m : mW (gN g) X) : fM g h ∧ mW (gN h) X := by
  obtain ⟨⟨f1, f2, f3⟩, -, -, l⟩ := q
  refine ⟨⟨f1.1, fun b hb => f1.2 b (fun z => by unfold kRow sRow at hb; omega), f3, f2 27 (by decide), f2 31 (by decide), f2 36 (by decide)⟩, ?_⟩
  refine m.mk rfl (fun a ha => f1.2 a (by omega)) (fun j hj => e j (by omega)) l ?_ ?_ ?_
  · rw [e 8 (by decide), e 7 (by decide)]; exact m.fx
  · rw [e 6 (by decide), f1.2 265 (by omega), f1.2 266 (by omega), f1.2 267 (by omega)]; exact m.lg
  · rw [f2 51 (by decide), f1.2 292 (by omega)]; exact m.pa
theorem cyF_kpt {g h : jx_H} {L : ML} (c : cyF g h 4400 5) (l : mLa g.2.1 L) : mLk g h L := by
  obtain ⟨c1, c2, c3, c4, c5, c6⟩ := c
  have e : ∀ b, b ≠ 302 → b ≠ 253 → b ≠ 293 → h.2.1 b = g.2.1 b := fun b h1 h2 h3 => c1.2 b (by omega)
  refine ⟨⟨c1.mo (fun b hb => by omega), fun j hj => c2 j (by omega) (by omega), fun i hi => c6 i (by omega)⟩, ⟨fun j hj => ?_, fun m hm => ⟨?_, ?_, ?_⟩, fun v hv => ?_⟩, fun j _ => by rw [e 254 (by decide) (by decide) (by decide)], l.of (e _ (by decide) (by decide) (by decide)) (e _ (by decide) (by decide) (by decide)) (e _ (by decide) (by decide) (by decide)) (e _ (by decide) (by decide) (by decide)) (by rw [e 254 (by decide) (by decide) (by decide)]) (by rw [e 254 (by decide) (by decide) (by decide)])⟩
  · exact c5 0 (by decide) j hj
  · exact c5 1 (by decide) m hm
  · exact c5 2 (by decide) m hm
  · exact c5 3 (by decide) m hm
  · exact c5 4 (by decide) v hv
theorem cyB_kpt {g h h' : jx_H} {L L0 : ML} (q : mLk g h L) (l : mLa g.2.1 L0) (c : cyB h h' 4400 5) : mLk g h' L0 ∧ ∀ j, j < 9 → h'.2.1 254 j = g.2.1 254 j := by
  obtain ⟨c1, c2, c3, c4, c5, c6⟩ := c
  have f : fC (fun b => (253 ≤ b ∧ b ≤ 257) ∨ b = 262) h h' := c1.mo (fun b hb => by
    rcases hb with rfl | ⟨t, ht, rfl⟩
    · omega
    · rcases (show t = 0 ∨ t = 1 ∨ t = 2 ∨ t = 3 ∨ t = 4 by omega) with rfl | rfl | rfl | rfl | rfl <;> decide)
  obtain ⟨⟨f1, f2, f3⟩, k, e, -⟩ := q
  obtain ⟨k1, k2, k3⟩ := id k
  have z0 : ∀ j, j < 9 → h'.2.1 254 j = g.2.1 254 j := fun j hj => (c5 0 (by decide) j hj).trans (k1 j hj)
  refine ⟨⟨⟨f1.tr (f.mo (fun b hb => by omega)), fun j hj => ?_, fun i hi => by rw [f.2 302 (by omega)]; exact f3 i hi⟩, k.fr (f.2 302 (by omega)), fun j hj => z0 j (by omega), fun m hm => ⟨?_, ?_, ?_⟩, fun v hv => ?_, ?_, ?_⟩, z0⟩
  · by_cases c : j = 51
    · rw [c, c6 (by decide)]; exact f2 51 (by decide)
    · rw [c2 j (by omega) (by omega) c]; exact f2 j hj
  · exact ((c5 1 (by decide) m hm).trans (k2 m hm).1).trans (l.1 m hm).1
  · exact ((c5 2 (by decide) m hm).trans (k2 m hm).2.1).trans (l.1 m hm).2.1
  · exact ((c5 3 (by decide) m hm).trans (k2 m hm).2.2).trans (l.1 m hm).2.2
  · exact ((c5 4 (by decide) v hv).trans (k3 v hv)).trans (l.2.1 v hv)
  · exact (z0 4 (by decide)).trans l.2.2.1
  · exact (z0 5 (by decide)).trans l.2.2.2
set_option maxHeartbeats 2000000 in
theorem t_Mo_keepsAll (d : Nat) {bc bs : Nat} {h : jx_H} {L : ML} (H : jx_St h) (hL : mLa h.2.1 L) : jx_Tr (d + 3) bc bs 12078 [.ref 253] h (fun r h' => r = none ∧ mLk h h' L ∧ ∀ j, j < 9 → h'.2.1 254 j = h.2.1 254 j) := by
  refine jx_tr jM_Mo_keepsAll rfl rfl (lv := [some (.ref 253)]) rfl ?_
  refine je_aload0 (pc := 0) d12078_0 rfl ?_
  refine je_iconst (pc := 1) (v := 4) d12078_1 rfl ?_
  refine je_iconst (pc := 2) (v := 0) d12078_2 rfl ?_
  refine ju_callv (pc := 3) (as := [_, _]) d12078_3 jL_12_475 jM_Mo_carriesAll rfl (by decide) (sK253 H) rfl (by exact Nat.le_of_ble_eq_true rfl) (t_Mo_carriesAll_4 d (q := 4400) H rfl) (fun r3 h3 q3 => ?_)
  obtain ⟨rfl, f1⟩ := q3
  refine je_ret (pc := 6) d12078_6 rfl ?_
  exact ⟨rfl, cyF_kpt f1 hL, fun j _ => by rw [f1.1.2 254 (by omega)]⟩
set_option maxHeartbeats 2000000 in
theorem t_Mo_laysBack (d : Nat) {bc bs : Nat} {h : jx_H} {g : jx_H} {L L0 : ML} (H : jx_St h) (k : mLk g h L) (l : mLa g.2.1 L0) : jx_Tr (d + 3) bc bs 12083 [.ref 253] h (fun r h' => r = none ∧ mLk g h' L0 ∧ ∀ j, j < 9 → h'.2.1 254 j = g.2.1 254 j) := by
  refine jx_tr jM_Mo_laysBack rfl rfl (lv := [some (.ref 253)]) rfl ?_
  refine je_aload0 (pc := 0) d12083_0 rfl ?_
  refine je_iconst (pc := 1) (v := 4) d12083_1 rfl ?_
  refine je_iconst (pc := 2) (v := 1) d12083_2 rfl ?_
  refine ju_callv (pc := 3) (as := [_, _]) d12083_3 jL_12_475 jM_Mo_carriesAll rfl (by decide) (sK253 H) rfl (by exact Nat.le_of_ble_eq_true rfl) (t_Mo_carriesAll_4b d (q := 4400) H rfl) (fun r3 h3 q3 => ?_)
  obtain ⟨rfl, f1⟩ := q3
  refine je_ret (pc := 6) d12083_6 rfl ?_
  exact ⟨rfl, (cyB_kpt k l f1).1, (cyB_kpt k l f1).2⟩
set_option maxHeartbeats 2000000 in
theorem t_Mo_goes (d : Nat) {bc bs : Nat} {h : jx_H} {S : MS} {R : Option MR} {L : ML} {n nn : Nat} (H : jx_St h) (C : mLaw h S R) (wS : wfS S) (h0 : 0 < S.1.1) (hmi : S.1.1 ≤ 10) (hL : mLa h.2.1 L) (hN : L.2.2.2.2.2 = nI nn) (hn : nn + n < 100000) : jx_Tr (d + 8) bc bs 12081 [.ref 253, .int (nI n)] h (fun r h' => r = some (.int (nI (ctF S R L n))) ∧ fN h h' ∧ mLa h'.2.1 (nitF S R n L)) := by
  refine jx_tr jM_Mo_goes rfl rfl (lv := [some (.ref 253), some (.int (nI n)), none, none]) rfl ?_
  refine je_iconst (pc := 0) (v := 0) d12081_0 rfl ?_
  refine ju_istore2 (pc := 1) (lv' := [some _, some _, some _, none]) d12081_1 rfl rfl ?_
  refine je_iconst (pc := 2) (v := 0) d12081_2 rfl ?_
  refine ju_istore3 (pc := 3) (lv' := [some _, some _, some _, some _]) d12081_3 rfl rfl ?_
  refine je_loop (σ := Unit) (n) (fun k xx => [some (.ref 253), some (.int (nI n)), some (.int (nI (ctF S R L k))), some (.int (nI k))]) (fun k _ h' => fN h h' ∧ mLa h'.2.1 (nitF S R k L)) (fun k xx h' hk e kk => ?_) (fun xx h' e => ?_) (0) () h (by omega) ⟨fN.rf, hL⟩
  · obtain ⟨e1, e2⟩ := e
    have H1 := e1.1.St H
    have C1 := C.N e1
    refine je_iload3 (pc := 4) d12081_4 rfl ?_
    refine je_iload1 (pc := 5) d12081_5 rfl ?_
    refine jn_icge (pc := 6) (a := (k)) (b := (n)) 22 d12081_6 (by decide) (by omega) (by omega) (fun c6 => by exfalso; omega) (fun c6 => ?_)
    refine je_iload2 (pc := 9) d12081_9 rfl ?_
    refine je_aload0 (pc := 10) d12081_10 rfl ?_
    refine ju_callv (pc := 11) (as := []) d12081_11 jL_12_439 jM_Mo_goesNight rfl (by decide) (sK253 H1) rfl (by exact Nat.le_of_ble_eq_true rfl) (t_Mo_goesNight d H1 C1 wS h0 hmi e2 (nit_n hN k) (by omega)) (fun r11 h11 q11 => ?_)
    obtain ⟨rfl, f1, f2⟩ := q11
    refine je_iadd (pc := 14) d12081_14 ?_
    refine ju_eqi (v := nI ((ctF S R L k) + (cnN S (nitF S R k L).1 (nitF S R (k + 1) L).1 S.1.2.1))) (nI_add (ctF S R L k) (cnN S (nitF S R k L).1 (nitF S R (k + 1) L).1 S.1.2.1)) ?_
    refine ju_istore2 (pc := 15) (lv' := [some _, some _, some _, some _]) d12081_15 rfl rfl ?_
    refine ju_incN (pc := 16) (v := nI ((k) + 1)) (lv' := [some _, some _, some _, some _]) d12081_16 rfl (nI_1 (k)) rfl ?_
    refine je_goto (pc := 19) 4 d12081_19 (by decide) ?_
    exact kk () _ ⟨e1.tr f1, f2⟩
  · obtain ⟨e1, e2⟩ := e
    refine je_iload3 (pc := 4) d12081_4 rfl ?_
    refine je_iload1 (pc := 5) d12081_5 rfl ?_
    refine jn_icge (pc := 6) (a := ((n))) (b := (n)) 22 d12081_6 (by decide) (by omega) (by omega) (fun c6 => ?_) (fun c6 => by exfalso; omega)
    refine je_iload2 (pc := 22) d12081_22 rfl ?_
    refine je_iret (pc := 23) d12081_23 rfl ?_
    exact ⟨rfl, e1, e2⟩
/-! who lies on a side -/
def onN (S : MS) (l : Nat → Int32) (sd : Int32) : Nat → Nat
  | 0 => 0
  | v + 1 => onN S l sd v ||| (if sdM S l v = sd then 2 ^ v else 0)
theorem onN_bit (S : MS) (l : Nat → Int32) (sd : Int32) (i : Nat) : ∀ n, (onN S l sd n).testBit i = decide (i < n ∧ sdM S l i = sd)
  | 0 => by rw [onN]; simp
  | n + 1 => by
    rw [onN, Nat.testBit_or, onN_bit S l sd i n, Bool.eq_iff_iff]
    by_cases c : sdM S l n = sd
    · rw [if_pos c, Nat.testBit_two_pow]
      simp only [Bool.or_eq_true, decide_eq_true_eq]
      constructor
      · rintro (z | rfl)
        · exact ⟨by omega, z.2⟩
        · exact ⟨by omega, c⟩
      · intro z
        by_cases e : n = i
        · exact Or.inr e
        · exact Or.inl ⟨by omega, z.2⟩
    · rw [if_neg c]
      simp only [Bool.or_eq_true, decide_eq_true_eq, Nat.zero_testBit, Bool.false_eq_true, or_false]
      constructor
      · intro z; exact ⟨by omega, z.2⟩
      · intro z
        refine ⟨?_, z.2⟩
        by_cases e : i = n
        · subst e; exact absurd z.2 c
        · omega
theorem onN_lt (S : MS) (l : Nat → Int32) (sd : Int32) {n : Nat} : onN S l sd n < 2 ^ n := by
  apply Nat.lt_pow_two_of_testBit
  intro i hi
  rw [onN_bit]
  exact decide_eq_false (fun z => by omega)
theorem east_ok (S : MS) (l : Nat → Int32) {n : Nat} (hn : n ≤ 8) : (nI (sidN S l n) >>> ((8 : Int32) &&& 31)) &&& 255 = nI (onN S l 1 n) := by
  have h1 := sidN_lt S l hn
  rw [sh8 (by omega), pk_andN (Nat.lt_of_le_of_lt (Nat.div_le_self _ _) (by omega)) 8 (by decide)]
  congr 1
  apply Nat.eq_of_testBit_eq
  intro i
  rw [Nat.testBit_mod_two_pow, Nat.testBit_div_two_pow, sidN_bit S l _ n hn, onN_bit]
  by_cases a1 : i < 8
  · have a3 : ¬ i + 8 < n := by omega
    simp [a1, a3]
  · have a3 : ¬ i < n := by omega
    simp [a1, a3]
theorem west_ok (S : MS) (l : Nat → Int32) {n : Nat} (hn : n ≤ 8) : nI (sidN S l n) &&& 255 = nI (onN S l 0 n) := by
  have h1 := sidN_lt S l hn
  rw [pk_andN (by omega) 8 (by decide)]
  congr 1
  apply Nat.eq_of_testBit_eq
  intro i
  rw [Nat.testBit_mod_two_pow, sidN_bit S l _ n hn, onN_bit]
  by_cases a1 : i < 8
  · have a3 : ¬ 8 ≤ i := by omega
    simp [a1, a3]
  · have a3 : ¬ i < n := by omega
    simp [a1, a3]
set_option maxHeartbeats 2000000 in
theorem t_Mo_villagesOn (d : Nat) {bc bs : Nat} {h : jx_H} {S : MS} {l : Nat → Int32} (H : jx_St h) (hS : mSt h.2.1 S) (wS : wfS S) (hl : ∀ m, m < 10 → h.2.1 255 m = l m) (sd : Int32) : jx_Tr (d + 2) bc bs 12082 [.ref 253, .int sd] h (fun r h' => r = some (.int (nI (onN S l sd S.1.2.1))) ∧ h' = h) := by
  refine jx_tr jM_Mo_villagesOn rfl rfl (lv := [some (.ref 253), some (.int sd), none, none]) rfl ?_
  have w8 := wS.2.1
  refine je_iconst (pc := 0) (v := 0) d12082_0 rfl ?_
  refine ju_istore2 (pc := 1) (lv' := [some _, some _, some _, none]) d12082_1 rfl rfl ?_
  refine je_iconst (pc := 2) (v := 0) d12082_2 rfl ?_
  refine ju_istore3 (pc := 3) (lv' := [some _, some _, some _, some _]) d12082_3 rfl rfl ?_
  refine je_loop (σ := Unit) (S.1.2.1) (fun k xx => [some (.ref 253), some (.int sd), some (.int (nI (onN S l sd k))), some (.int (nI k))]) (fun _ _ h' => h' = h) (fun k xx h' hk e kk => ?_) (fun xx h' e => ?_) (0) () h (by omega) rfl
  · obtain rfl := e.symm
    refine je_iload3 (pc := 4) d12082_4 rfl ?_
    refine je_aload0 (pc := 5) d12082_5 rfl ?_
    refine ju_getr (pc := 6) (b := 254) d12082_6 jF_12_9 rfl (sK253 H) (sR253_1 H) ?_
    refine je_iconst (pc := 9) (v := 2) d12082_9 rfl ?_
    refine ju_iald (pc := 10) (jn := 2) d12082_10 (sK254 H) (by first | assumption | exact jx_ok_dec (by decide)) (by decide) ?_
    refine ju_eqi (v := nI S.1.2.1) hS.1.2.2.1 ?_
    refine jn_icge (pc := 11) (a := (k)) (b := (S.1.2.1)) 39 d12082_11 (by decide) (by omega) (by omega) (fun c11 => by exfalso; omega) (fun c11 => ?_)
    refine je_iload2 (pc := 14) d12082_14 rfl ?_
    refine je_aload0 (pc := 15) d12082_15 rfl ?_
    refine je_iload3 (pc := 16) d12082_16 rfl ?_
    refine ju_callv (pc := 17) (as := [_]) d12082_17 jL_12_394 jM_Mo_sideOf rfl (by decide) (sK253 H) rfl (by exact Nat.le_of_ble_eq_true rfl) (mo_side d H hS wS hl hk) (fun r17 h17 q17 => ?_)
    obtain ⟨rfl, e17⟩ := q17
    obtain rfl := e17.symm
    refine je_iload1 (pc := 20) d12082_20 rfl ?_
    refine ju_tern2 (pc := 21) (V := nI (if sdM S l k = sd then 2 ^ k else 0)) 31 ?_ (fun jn21 => ?_)
    · refine je_ior (pc := 31) d12082_31 ?_
      refine ju_eqi (v := nI (onN S l sd (k + 1))) (by rw [fa_or]; rfl) ?_
      refine ju_istore2 (pc := 32) (lv' := [some _, some _, some _, some _]) d12082_32 rfl rfl ?_
      refine ju_incN (pc := 33) (v := nI ((k) + 1)) (lv' := [some _, some _, some _, some _]) d12082_33 rfl (nI_1 (k)) rfl ?_
      refine je_goto (pc := 36) 4 d12082_36 (by decide) ?_
      exact kk () _ rfl
    · refine je_icne (pc := 21) 30 d12082_21 (by decide) (fun c21 => ?_) (fun c21 => ?_)
      · refine je_iconst (pc := 30) (v := 0) d12082_30 rfl ?_
        refine ju_eqi (v := nI (if sdM S l k = sd then 2 ^ k else 0)) (by rw [if_neg c21]; rfl) ?_
        exact jn21
      · refine je_iconst (pc := 24) (v := 1) d12082_24 rfl ?_
        refine je_iload3 (pc := 25) d12082_25 rfl ?_
        refine je_ishl (pc := 26) d12082_26 ?_
        refine je_goto (pc := 27) 31 d12082_27 (by decide) ?_
        refine ju_eqi (v := nI (if sdM S l k = sd then 2 ^ k else 0)) (by rw [if_pos c21]; exact sh1 k (by omega)) ?_
        exact jn21
  · obtain rfl := e.symm
    refine je_iload3 (pc := 4) d12082_4 rfl ?_
    refine je_aload0 (pc := 5) d12082_5 rfl ?_
    refine ju_getr (pc := 6) (b := 254) d12082_6 jF_12_9 rfl (sK253 H) (sR253_1 H) ?_
    refine je_iconst (pc := 9) (v := 2) d12082_9 rfl ?_
    refine ju_iald (pc := 10) (jn := 2) d12082_10 (sK254 H) (by first | assumption | exact jx_ok_dec (by decide)) (by decide) ?_
    refine ju_eqi (v := nI S.1.2.1) hS.1.2.2.1 ?_
    refine jn_icge (pc := 11) (a := ((S.1.2.1))) (b := (S.1.2.1)) 39 d12082_11 (by decide) (by omega) (by omega) (fun c11 => ?_) (fun c11 => by exfalso; omega)
    refine je_iload2 (pc := 39) d12082_39 rfl ?_
    refine je_iret (pc := 40) d12082_40 rfl ?_
    exact ⟨rfl, rfl⟩
theorem sL68 {h : jx_H} (H : jx_St h) : jx_La h 68 := lA_La H (Or.inr (Or.inl rfl))
theorem sL73 {h : jx_H} (H : jx_St h) : jx_La h 73 := lA_La H (Or.inr (Or.inr (Or.inl rfl)))
/-- rows that looking ahead may change in the class -/
theorem olA {b : Nat} (h : b = 65 ∨ (67 ≤ b ∧ b ≤ 124)) : ¬ kRow b := by unfold kRow sRow; omega
set_option maxHeartbeats 2000000 in
theorem t_Ol_landAfter (d : Nat) {bc bs : Nat} {h : jx_H} {S : MS} {R : Option MR} {L : ML} {nn : Nat} (H : jx_St h) (C : cLaw h S R) (wS : wfS S) (h0 : 0 < S.1.1) (hL : rL h.2.1 40 L) (hN : L.2.2.2.2.2 = nI nn) {n : Nat} (hn : nn + n < 998) : jx_Tr (d + 5) bc bs 9001 [.ref 67, .ref 40, .int (nI n)] h (fun r h' => r = some (.ref 68) ∧ fC (fun b => b = 65 ∨ 68 ≤ b ∧ b ≤ 72) h h' ∧ rL h'.2.1 68 (nitF S R n L)) := by
  refine jx_tr jM_Ol_landAfter rfl rfl (lv := [some (.ref 67), some (.ref 40), some (.int (nI n)), none]) rfl ?_
  refine je_aload0 (pc := 0) d9001_0 rfl ?_
  refine ju_getr (pc := 1) (b := 68) d9001_1 jF_9_12 rfl (sK67 H) (sR67_1 H) ?_
  refine je_aload1 (pc := 4) d9001_4 rfl ?_
  refine ju_callv (pc := 5) (as := [_]) d9001_5 jL_9_29 jM_La_copyFrom rfl (by decide) (sK68 H) rfl (by exact Nat.le_of_ble_eq_true rfl) (t_La_copyFrom (d + 2) (a := 68) (b := 40) (sL68 H) (sL40 H) (by decide)) (fun r5 h5 q5 => ?_)
  obtain ⟨rfl, f1, f2⟩ := q5
  have H0 := f1.St H
  have L0 := f2 L hL
  refine je_iconst (pc := 8) (v := 0) d9001_8 rfl ?_
  refine ju_istore3 (pc := 9) (lv' := [some _, some _, some _, some _]) d9001_9 rfl rfl ?_
  refine je_loop (σ := Unit) (n) (fun k xx => [some (.ref 67), some (.ref 40), some (.int (nI n)), some (.int (nI k))]) (fun k _ h' => fC (fun b => b = 65 ∨ 68 ≤ b ∧ b ≤ 72) h h' ∧ rL h'.2.1 68 (nitF S R k L)) (fun k xx h' hk e kk => ?_) (fun xx h' e => ?_) (0) () h5 (by omega) ⟨f1.mo (fun b hb => by omega), L0⟩
  · obtain ⟨e1, e2⟩ := e
    have H1 := e1.St H
    have C1 := C.fr e1 (fun b hb => olA (by omega))
    refine je_iload3 (pc := 10) d9001_10 rfl ?_
    refine je_iload2 (pc := 11) d9001_11 rfl ?_
    refine jn_icge (pc := 12) (a := (k)) (b := (n)) 34 d9001_12 (by decide) (by omega) (by omega) (fun c12 => by exfalso; omega) (fun c12 => ?_)
    refine je_aload0 (pc := 15) d9001_15 rfl ?_
    refine ju_getr (pc := 16) (b := 51) d9001_16 jF_9_25 rfl (sK67 H1) (sR67_0 H1) ?_
    refine je_aload0 (pc := 19) d9001_19 rfl ?_
    refine ju_getr (pc := 20) (b := 68) d9001_20 jF_9_12 rfl (sK67 H1) (sR67_1 H1) ?_
    refine je_iconst (pc := 23) (v := -1) d9001_23 rfl ?_
    refine ju_callv (pc := 24) (as := [_, _]) d9001_24 jL_9_35 jM_Lw_pass rfl (by decide) (sK51 H1) rfl (by exact Nat.le_of_ble_eq_true rfl) (t_Lw_pass (d + 0) (a := 68) H1 C1 wS h0 (Or.inr (Or.inl rfl)) e2 (nn := nn + k) (nit_n hN k) (by omega) (-1) _ rfl) (fun r24 h24 q24 => ?_)
    obtain ⟨rfl, f3, f4⟩ := q24
    rw [if_pos rfl] at f4
    refine je_pop (pc := 27) d9001_27 rfl ?_
    refine ju_incN (pc := 28) (v := nI ((k) + 1)) (lv' := [some _, some _, some _, some _]) d9001_28 rfl (nI_1 (k)) rfl ?_
    refine je_goto (pc := 31) 10 d9001_31 (by decide) ?_
    exact kk () _ ⟨e1.tr (f3.mo (fun b hb => by omega)), f4⟩
  · obtain ⟨e1, e2⟩ := e
    have H1 := e1.St H
    have C1 := C.fr e1 (fun b hb => olA (by omega))
    refine je_iload3 (pc := 10) d9001_10 rfl ?_
    refine je_iload2 (pc := 11) d9001_11 rfl ?_
    refine jn_icge (pc := 12) (a := ((n))) (b := (n)) 34 d9001_12 (by decide) (by omega) (by omega) (fun c12 => ?_) (fun c12 => by exfalso; omega)
    refine je_aload0 (pc := 34) d9001_34 rfl ?_
    refine ju_getr (pc := 35) (b := 68) d9001_35 jF_9_12 rfl (sK67 H1) (sR67_1 H1) ?_
    refine je_aret (pc := 38) d9001_38 rfl ?_
    exact ⟨rfl, e1, e2⟩
