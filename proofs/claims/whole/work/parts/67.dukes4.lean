/-! dukes: the whole -/
theorem mLk.w59 {g h : jx_H} {L : ML} {v : Int32} (q : mLk g h L) : mLk g (jx_wI h 253 59 v) L :=
  ⟨⟨q.1.1.wI (by omega), fun j hj => by rw [wI_at, jx_up_ne _ _ (by omega)]; exact q.1.2.1 j hj, fun i hi => by rw [wI_ne _ _ _ (by decide)]; exact q.1.2.2 i hi⟩, q.2.1.fr (wI_ne _ _ _ (by decide)), fun j hj => by rw [wI_ne _ _ _ (by decide)]; exact q.2.2.1 j hj, q.2.2.2.of (wI_ne _ _ _ (by decide)) (wI_ne _ _ _ (by decide)) (wI_ne _ _ _ (by decide)) (wI_ne _ _ _ (by decide)) (by rw [wI_ne _ _ _ (by decide)]) (by rw [wI_ne _ _ _ (by decide)])⟩
theorem mLk.lo {g h h' : jx_H} {L : ML} (q : mLk g h L) {A : Nat → Prop} (b : fC A h h') (hA : ∀ b, A b → 293 ≤ b ∧ b ≤ 301) : mLk g h' L :=
  q.fr b (fun b hb => by have := hA b hb; omega) (fun j _ => by rw [b.2 254 (fun z => by have := hA _ z; omega)]) (q.2.2.2.of (b.2 _ (fun z => by have := hA _ z; omega)) (b.2 _ (fun z => by have := hA _ z; omega)) (b.2 _ (fun z => by have := hA _ z; omega)) (b.2 _ (fun z => by have := hA _ z; omega)) (by rw [b.2 254 (fun z => by have := hA _ z; omega)]) (by rw [b.2 254 (fun z => by have := hA _ z; omega)]))
def dFr (h h' : jx_H) (g : Nat) : Prop := (∀ j, j < g → h'.2.1 297 j = h.2.1 297 j ∧ h'.2.1 298 j = h.2.1 298 j) ∧ (∀ i, i < 21 * g → h'.2.1 296 i = h.2.1 296 i) ∧ (¬ g = 0 → h'.2.1 253 59 = h.2.1 253 59)
theorem dFr.rf {h : jx_H} {g : Nat} : dFr h h g := ⟨fun _ _ => ⟨rfl, rfl⟩, fun _ _ => rfl, fun _ => rfl⟩
theorem dFr.tr {h1 h2 h3 : jx_H} {g : Nat} (a : dFr h1 h2 g) (b : dFr h2 h3 g) : dFr h1 h3 g := ⟨fun j hj => ⟨(b.1 j hj).1.trans (a.1 j hj).1, (b.1 j hj).2.trans (a.1 j hj).2⟩, fun i hi => (b.2.1 i hi).trans (a.2.1 i hi), fun z => (b.2.2 z).trans (a.2.2 z)⟩
def fD (S : MS) (R : Option MR) (rem : Nat) (e : Bool) (L : ML) : Nat → Int := fun c => sgn e * gnF S R rem (!e) (dkL S R (wyI e) L c)
def wvI (f : Nat → Int) (ok : Nat → Bool) (e : Bool) (c : Nat) : Int32 := if c = 0 then 1000 else iZ (sgn e * rbF f ok c)
def tvI : Nat → Int32
  | 0 => -2
  | c + 1 => chV c
theorem tv_s {c : Nat} (h : c < 1000) : tvI c + 1 = chV c := by
  match c with
  | 0 => decide
  | c + 1 => exact chV_i (by omega)
def samL (L L' : ML) : Prop := L'.2.2.1 = L.2.2.1 ∧ L'.2.2.2.2.1 = L.2.2.2.2.1
/-- a night of dukes: what was tried of it up to c -/
def DV (hs : jx_H) (S : MS) (R : Option MR) (rem : Nat) (e : Bool) (L : ML) (g c : Nat) (tr : Int32) (h : jx_H) : Prop :=
  dFr hs h g ∧ dSv h g L ∧ h.2.1 297 g = tr ∧ h.2.1 298 g = wvI (fD S R rem e L) (okC_ L) e c ∧ (g = 0 → 0 < c → h.2.1 253 59 = chV (raF (fD S R rem e L) (okC_ L) c))
theorem DV.fr {hs h h' : jx_H} {S : MS} {R : Option MR} {rem g c : Nat} {e : Bool} {L : ML} {tr : Int32} (q : DV hs S R rem e L g c tr h) (e6 : ∀ i, i < 21 * (g + 1) → h'.2.1 296 i = h.2.1 296 i) (e7 : ∀ j, j < g + 1 → h'.2.1 297 j = h.2.1 297 j ∧ h'.2.1 298 j = h.2.1 298 j) (e9 : h'.2.1 253 59 = h.2.1 253 59) : DV hs S R rem e L g c tr h' := by
  obtain ⟨q1, q2, q3, q4, q5⟩ := q
  refine ⟨q1.tr ⟨fun j hj => e7 j (by omega), fun i hi => e6 i (by omega), fun _ => e9⟩, ⟨fun m hm => ?_, ?_⟩, ?_, ?_, fun a b => ?_⟩
  · rw [e6 _ (by omega), e6 _ (by omega)]; exact q2.1 m hm
  · rw [e6 _ (by omega)]; exact q2.2
  · rw [(e7 g (by omega)).1]; exact q3
  · rw [(e7 g (by omega)).2]; exact q4
  · rw [e9]; exact q5 a b
theorem sg_sg (e : Bool) (x : Int) : sgn e * (sgn e * x) = x := by unfold sgn; cases e <;> simp
/-- a worth is taken -/
theorem DV.go {hs h : jx_H} {S : MS} {R : Option MR} {rem g c : Nat} {e : Bool} {L : ML} (w8 : S.1.2.1 ≤ 8) (he : e = decide (g % 2 = 0)) (ho : okC_ L c = true) (q : DV hs S R rem e L g c (chV c) h) :
    DV hs S R rem e L g (c + 1) (chV c) (if (h.2.1 298 g = 1000 ∨ (if g % 2 = 0 then h.2.1 298 g < iZ (gnF S R rem (!e) (dkL S R (wyI e) L c)) else iZ (gnF S R rem (!e) (dkL S R (wyI e) L c)) < h.2.1 298 g)) then jx_wI (jx_wI h 298 g (iZ (gnF S R rem (!e) (dkL S R (wyI e) L c)))) 253 59 (if g = 0 then h.2.1 297 0 else h.2.1 253 59) else h) := by
  obtain ⟨q1, q2, q3, q4, q5⟩ := id q
  have bd := gn_bd (S := S) (R := R) w8 (k := rem) (e := !e) (L := dkL S R (wyI e) L c)
  generalize hv : gnF S R rem (!e) (dkL S R (wyI e) L c) = v at bd ⊢
  have fv : fD S R rem e L c = sgn e * v := by unfold fD; rw [hv]
  have fb : ∀ c, -(S.1.2.1 : Int) ≤ fD S R rem e L c ∧ fD S R rem e L c ≤ S.1.2.1 := fun c => sgn_bd (gn_bd w8)
  have iff1 : (h.2.1 298 g = 1000 ∨ (if g % 2 = 0 then h.2.1 298 g < iZ v else iZ v < h.2.1 298 g)) ↔ (c = 0 ∨ rbF (fD S R rem e L) (okC_ L) c < fD S R rem e L c) := by
    rw [q4]
    by_cases z : c = 0
    · exact ⟨fun _ => Or.inl z, fun _ => Or.inl (by unfold wvI; rw [if_pos z])⟩
    · have rb := rb_bd (f := fD S R rem e L) (ok := okC_ L) fb (t := c) (by omega)
      have rs := sgn_bd (e := e) rb
      have n1 : ¬ wvI (fD S R rem e L) (okC_ L) e c = 1000 := by
        unfold wvI
        rw [if_neg z, show (1000 : Int32) = iZ 1000 from rfl, iZ_eq (by omega) (by omega) (by omega) (by omega)]
        omega
      have e1 : wvI (fD S R rem e L) (okC_ L) e c = iZ (sgn e * rbF (fD S R rem e L) (okC_ L) c) := by unfold wvI; rw [if_neg z]
      rw [fv]
      by_cases p2 : g % 2 = 0
      · have : e = true := by rw [he]; exact decide_eq_true p2
        subst this
        rw [if_pos p2, e1, iZ_lt (by omega) (by omega) (by omega) (by omega)]
        have s1 : ∀ x : Int, sgn true * x = x := fun x => by show 1 * x = x; omega
        rw [e1] at n1
        rw [s1] at n1 rs ⊢
        rw [s1]
        exact ⟨fun y => y.elim (fun y => absurd y n1) Or.inr, fun y => y.elim (fun y => absurd y z) Or.inr⟩
      · have : e = false := by rw [he]; exact decide_eq_false p2
        subst this
        rw [if_neg p2, e1, iZ_lt (by omega) (by omega) (by omega) (by omega)]
        have s1 : ∀ x : Int, sgn false * x = -x := fun x => by show -1 * x = -x; omega
        rw [e1] at n1
        rw [s1] at n1 rs ⊢
        rw [s1]
        exact ⟨fun y => y.elim (fun y => absurd y n1) (fun y => Or.inr (by omega)), fun y => y.elim (fun y => absurd y z) (fun y => Or.inr (by omega))⟩
  have rb1 : rbF (fD S R rem e L) (okC_ L) (c + 1) = if (c = 0 ∨ rbF (fD S R rem e L) (okC_ L) c < fD S R rem e L c) then fD S R rem e L c else rbF (fD S R rem e L) (okC_ L) c := by
    rw [rbF]
    by_cases z : c = 0
    · rw [if_pos z, if_pos (Or.inl z), z]
    · rw [if_neg z]
      by_cases y : rbF (fD S R rem e L) (okC_ L) c < fD S R rem e L c
      · rw [if_pos ⟨ho, y⟩, if_pos (Or.inr y)]
      · rw [if_neg (fun q => y q.2), if_neg (fun q => q.elim z y)]
  have ra1 : raF (fD S R rem e L) (okC_ L) (c + 1) = if (c = 0 ∨ rbF (fD S R rem e L) (okC_ L) c < fD S R rem e L c) then c else raF (fD S R rem e L) (okC_ L) c := by
    rw [raF]
    by_cases z : c = 0
    · rw [if_pos z, if_pos (Or.inl z), z]
    · rw [if_neg z]
      by_cases y : rbF (fD S R rem e L) (okC_ L) c < fD S R rem e L c
      · rw [if_pos ⟨ho, y⟩, if_pos (Or.inr y)]
      · rw [if_neg (fun q => y q.2), if_neg (fun q => q.elim z y)]
  by_cases B : c = 0 ∨ rbF (fD S R rem e L) (okC_ L) c < fD S R rem e L c
  · rw [if_pos (iff1.mpr B)]
    refine ⟨q1.tr ⟨fun j hj => ⟨by rw [wI_ne _ _ _ (by decide), wI_ne _ _ _ (by decide)], by rw [wI_ne _ _ _ (by decide), wI_at, jx_up_ne _ _ (by omega)]⟩, fun i _ => by rw [wI_ne _ _ _ (by decide), wI_ne _ _ _ (by decide)], fun z => by rw [wI_at, jx_up_self, if_neg z]⟩, ?_, ?_, ?_, fun a _ => ?_⟩
    · unfold dSv
      rw [wI_ne _ _ _ (by decide), wI_ne _ _ _ (by decide)]
      exact q2
    · rw [wI_ne _ _ _ (by decide), wI_ne _ _ _ (by decide)]; exact q3
    · rw [wI_ne _ _ _ (by decide), wI_at, jx_up_self]
      unfold wvI
      rw [if_neg (by omega), rb1, if_pos B, fv, sg_sg]
    · subst a
      rw [wI_at, jx_up_self, if_pos rfl, ra1, if_pos B]
      exact q3
  · rw [if_neg (fun z => B (iff1.mp z))]
    have c0 : ¬ c = 0 := fun z => B (Or.inl z)
    refine ⟨q1, q2, q3, ?_, fun a _ => ?_⟩
    · rw [q4]
      unfold wvI
      rw [if_neg c0, if_neg (by omega), rb1, if_neg B]
    · rw [ra1, if_neg B]; exact q5 a (by omega)
theorem DV.skip {hs h h' : jx_H} {S : MS} {R : Option MR} {rem g c : Nat} {e : Bool} {L : ML} {tr tr' : Int32} (hc : 0 < c) (ho : okC_ L c = false) (q : DV hs S R rem e L g c tr h) (e6 : h'.2.1 296 = h.2.1 296) (e7 : ∀ j, j ≠ g → h'.2.1 297 j = h.2.1 297 j) (et : h'.2.1 297 g = tr') (e8 : h'.2.1 298 = h.2.1 298) (e9 : h'.2.1 253 = h.2.1 253) : DV hs S R rem e L g (c + 1) tr' h' := by
  obtain ⟨q1, q2, q3, q4, q5⟩ := q
  have r1 : rbF (fD S R rem e L) (okC_ L) (c + 1) = rbF (fD S R rem e L) (okC_ L) c := by rw [rbF, if_neg (by omega), if_neg (fun z => by rw [ho] at z; exact absurd z.1 (by decide))]
  have r2 : raF (fD S R rem e L) (okC_ L) (c + 1) = raF (fD S R rem e L) (okC_ L) c := by rw [raF, if_neg (by omega), if_neg (fun z => by rw [ho] at z; exact absurd z.1 (by decide))]
  refine ⟨q1.tr ⟨fun j hj => ⟨e7 j (by omega), by rw [e8]⟩, fun i _ => by rw [e6], fun _ => by rw [e9]⟩, ?_, et, ?_, fun a _ => ?_⟩
  · unfold dSv at q2 ⊢; rw [e6]; exact q2
  · rw [e8, q4]
    unfold wvI
    rw [if_neg (by omega), if_neg (by omega), r1]
  · rw [e9, r2]; exact q5 a hc
