/-! dukes: mathematics; the class -/
/-- small whole numbers -/
def iZ (x : Int) : Int32 := Int32.ofInt x
theorem iZ_t {x : Int} (h : -1000 ≤ x) (h2 : x ≤ 1000) : (iZ x).toInt = x := by
  unfold iZ
  rw [Int32.toInt_ofInt, show Int32.size = 4294967296 from rfl]
  exact Int.bmod_eq_of_le (by omega) (by omega)
theorem iZ_lt {x y : Int} (h1 : -1000 ≤ x) (h2 : x ≤ 1000) (h3 : -1000 ≤ y) (h4 : y ≤ 1000) : iZ x < iZ y ↔ x < y := by rw [fa_lt, iZ_t h1 h2, iZ_t h3 h4]
theorem iZ_eq {x y : Int} (h1 : -1000 ≤ x) (h2 : x ≤ 1000) (h3 : -1000 ≤ y) (h4 : y ≤ 1000) : iZ x = iZ y ↔ x = y := by rw [fa_eq, iZ_t h1 h2, iZ_t h3 h4]
theorem iZ_neg {x : Int} (h1 : -1000 ≤ x) (h2 : x ≤ 1000) : iZ (-x) = 0 - iZ x := by
  rw [fa_eq, iZ_t (by omega) (by omega), tI_sub (by decide) (by decide) (by rw [iZ_t h1 h2]; omega) (by rw [iZ_t h1 h2]; omega), iZ_t h1 h2, Int32.toInt_zero]
  omega
theorem iZ_sub {a b : Nat} (ha : a ≤ 100) (hb : b ≤ 100) : nI a - nI b = iZ ((a : Int) - b) := by
  rw [fa_eq, pk_sub_toInt (by omega) (by omega), iZ_t (by omega) (by omega)]
theorem iZ_nI (a : Nat) : nI a = iZ a := by unfold nI iZ; rw [Int32.ofInt_eq_ofNat]
theorem mul1 (x : Int32) : x * 1 = x := Int32.mul_one x
theorem mulm (x : Int32) : x * -1 = 0 - x := by
  have : (-1 : Int32) = -1 := rfl
  rw [Int32.mul_neg, Int32.mul_one, Int32.zero_sub]
/-- what alpha and beta leave of a value -/
def AB (v lo hi g : Int) : Prop := (v ≤ lo → v ≤ g ∧ g ≤ lo) ∧ (hi ≤ v → hi ≤ g ∧ g ≤ v) ∧ (lo < v → v < hi → g = v)
theorem AB.neg {v lo hi g : Int} (h : AB v lo hi g) : AB (-v) (-hi) (-lo) (-g) := ⟨fun a => by have := h.2.1 (by omega); omega, fun a => by have := h.1 (by omega); omega, fun a b => by have := h.2.2 (by omega) (by omega); omega⟩
theorem AB.rf {v lo hi : Int} : AB v lo hi v := ⟨fun a => ⟨Int.le_refl _, a⟩, fun a => ⟨a, Int.le_refl _⟩, fun _ _ => rfl⟩
def imx (a b : Int) : Int := if a < b then b else a
/-- the best of what was found against the best there is -/
def RE (lo B r : Int) : Prop := B = r ∨ (r ≤ B ∧ B ≤ lo)
theorem RE.go {lo hi B r f g : Int} (h : lo < hi) (hF : imx lo B < hi) (q : RE lo B r) (a : AB f (imx lo B) hi g) : (imx lo (imx B g) < hi → RE lo (imx B g) (imx r f)) ∧ (hi ≤ imx lo (imx B g) → hi ≤ imx B g ∧ imx B g ≤ imx r f) := by
  obtain ⟨a1, a2, a3⟩ := a
  unfold RE imx at *
  constructor
  · intro z
    by_cases c1 : f ≤ (if lo < B then B else lo)
    · have := a1 c1
      split at z <;> split at z <;> split at c1 <;> split at hF <;> (repeat' split) <;> omega
    · by_cases c2 : hi ≤ f
      · have := a2 c2
        split at z <;> split at z <;> split at hF <;> (repeat' split) <;> omega
      · have := a3 (by omega) (by omega)
        split at z <;> split at z <;> split at c1 <;> split at hF <;> (repeat' split) <;> omega
  · intro z
    by_cases c1 : f ≤ (if lo < B then B else lo)
    · have := a1 c1
      split at z <;> split at z <;> split at c1 <;> split at hF <;> (repeat' split) <;> omega
    · by_cases c2 : hi ≤ f
      · have := a2 c2
        split at z <;> split at z <;> split at c1 <;> split at hF <;> (repeat' split) <;> omega
      · have := a3 (by omega) (by omega)
        split at z <;> split at z <;> split at c1 <;> split at hF <;> (repeat' split) <;> omega
theorem RE.fs {lo hi f g : Int} (h : lo < hi) (a : AB f lo hi g) : (imx lo g < hi → RE lo g f) ∧ (hi ≤ imx lo g → hi ≤ g ∧ g ≤ f) := by
  obtain ⟨a1, a2, a3⟩ := a
  unfold RE imx
  by_cases c1 : f ≤ lo
  · have := a1 c1
    constructor <;> intro z <;> split at z <;> omega
  · by_cases c2 : hi ≤ f
    · have := a2 c2
      constructor <;> intro z <;> split at z <;> omega
    · have := a3 (by omega) (by omega)
      constructor <;> intro z <;> split at z <;> omega
/-- the best of several, the first of it -/
def rbF (f : Nat → Int) (ok : Nat → Bool) : Nat → Int
  | 0 => 0
  | t + 1 => if t = 0 then f 0 else if ok t = true ∧ rbF f ok t < f t then f t else rbF f ok t
def raF (f : Nat → Int) (ok : Nat → Bool) : Nat → Nat
  | 0 => 0
  | t + 1 => if t = 0 then 0 else if ok t = true ∧ rbF f ok t < f t then t else raF f ok t
theorem rb_mono (f : Nat → Int) (ok : Nat → Bool) : ∀ {t u : Nat}, 0 < t → t ≤ u → rbF f ok t ≤ rbF f ok u
  | t, 0, h, hu => absurd h (by omega)
  | t, u + 1, h, hu => by
    by_cases c : t = u + 1
    · rw [c]; exact Int.le_refl _
    · have := rb_mono f ok h (show t ≤ u by omega)
      rw [rbF, if_neg (by omega)]
      split
      · rename_i z; omega
      · exact this
theorem rb_bd {f : Nat → Int} {ok : Nat → Bool} {a b : Int} (h : ∀ c, a ≤ f c ∧ f c ≤ b) : ∀ {t : Nat}, 0 < t → a ≤ rbF f ok t ∧ rbF f ok t ≤ b
  | 0, h0 => absurd h0 (Nat.lt_irrefl 0)
  | t + 1, _ => by
    rw [rbF]
    split
    · exact h 0
    · split
      · exact h t
      · exact rb_bd h (by omega)
theorem ra_stop {f : Nat → Int} {ok : Nat → Bool} {b : Int} (h : ∀ c, f c ≤ b) {t : Nat} (ht : 0 < t) (e : b ≤ rbF f ok t) : ∀ {u : Nat}, t ≤ u → raF f ok u = raF f ok t ∧ b ≤ rbF f ok u
  | 0, hu => absurd ht (by omega)
  | u + 1, hu => by
    by_cases c : t = u + 1
    · rw [← c]; exact ⟨rfl, e⟩
    · obtain ⟨i1, i2⟩ := ra_stop h ht e (show t ≤ u by omega)
      have := h u
      rw [raF, rbF, if_neg (by omega), if_neg (by omega), if_neg (fun z => by omega), if_neg (fun z => by omega)]
      exact ⟨i1, i2⟩
/-- a land behind a duke's push and a night -/
def dkL (S : MS) (R : Option MR) (x : Int32) (L : ML) (c : Nat) : ML := nxF S R (if c = 0 then L else mvL (c - 1) x L)
def okC_ (L : ML) (c : Nat) : Bool := decide (c = 0 ∨ ¬ bkd L.2.2.2.2.1 (nI (c - 1)))
def lfZ (S : MS) (l : Nat → Int32) : Int := (pop 10 (onN S l 0 S.1.2.1) : Int) - (pop 10 (onN S l 1 S.1.2.1) : Int)
def sgn (e : Bool) : Int := if e then 1 else -1
def wyI (e : Bool) : Int32 := if e then 1 else -1
def gnF (S : MS) (R : Option MR) : Nat → Bool → ML → Int
  | 0, _, L => lfZ S L.1
  | k + 1, e, L => sgn e * rbF (fun c => sgn e * gnF S R k (!e) (dkL S R (wyI e) L c)) (okC_ L) (S.1.1 + 1)
theorem pop_le (n : Nat) (b : Nat) : pop n b ≤ n := by rw [pop_cnt]; exact fa_cnt_le _ n
theorem pop_v (S : MS) (l : Nat → Int32) (sd : Int32) (h : S.1.2.1 ≤ 8) : pop 10 (onN S l sd S.1.2.1) ≤ S.1.2.1 := by
  rw [pop_cnt, fa_cnt_stop (n := S.1.2.1) (by omega) (fun i h1 _ => by rw [onN_bit]; exact decide_eq_false (fun z => by omega))]
  exact fa_cnt_le _ _
theorem lfZ_bd (S : MS) (l : Nat → Int32) (h : S.1.2.1 ≤ 8) : -(S.1.2.1 : Int) ≤ lfZ S l ∧ lfZ S l ≤ S.1.2.1 := by
  have h1 := pop_v S l 0 h
  have h2 := pop_v S l 1 h
  unfold lfZ
  omega
theorem sgn_bd {e : Bool} {x n : Int} (h : -n ≤ x ∧ x ≤ n) : -n ≤ sgn e * x ∧ sgn e * x ≤ n := by unfold sgn; cases e <;> simp <;> omega
theorem gn_bd {S : MS} {R : Option MR} (h : S.1.2.1 ≤ 8) : ∀ {k : Nat} {e : Bool} {L : ML}, -(S.1.2.1 : Int) ≤ gnF S R k e L ∧ gnF S R k e L ≤ S.1.2.1
  | 0, _, L => lfZ_bd S L.1 h
  | k + 1, e, L => by rw [gnF]; exact sgn_bd (rb_bd (fun c => sgn_bd (gn_bd h)) (by omega))
/-- a duke's search, as it stands ahead of a choice -/
def GJ (f : Nat → Int) (ok : Nat → Bool) (lo hi : Int) (nv : Nat) (rt : Prop) (c : Nat) (B : Int) (bm : Int32) : Prop :=
  (c = 0 ∧ B = -100 ∧ bm = -1) ∨ (0 < c ∧ -8 ≤ B ∧ B ≤ 8 ∧ (nv = 0 → B = 0) ∧ (¬ nv = 0 → imx lo B < hi ∧ RE lo B (rbF f ok c)) ∧ (rt → B = rbF f ok c ∧ bm = chV (raF f ok c)))
section GJs
variable {f : Nat → Int} {ok : Nat → Bool} {lo hi B y : Int} {nv c N : Nat} {rt : Prop} {bm : Int32}
theorem imx_a (h : -8 ≤ lo) : imx lo (-100) = lo := by unfold imx; rw [if_neg (by omega)]
theorem imx_i (a b : Int) : (a < b → imx a b = b) ∧ (¬ a < b → imx a b = a) := ⟨fun h => if_pos h, fun h => if_neg h⟩
theorem imx_as : imx (imx lo B) (imx B y) = imx lo (imx B y) := by
  unfold imx
  (repeat' split) <;> omega
theorem GJ.bd (hl : -8 ≤ lo ∧ lo ≤ 8) (q : GJ f ok lo hi nv rt c B bm) : -8 ≤ imx lo B ∧ imx lo B ≤ 8 ∧ -100 ≤ B ∧ B ≤ 8 := by
  rcases q with ⟨-, rfl, -⟩ | ⟨-, b1, b2, -⟩
  · rw [imx_a hl.1]; omega
  · unfold imx; split <;> omega
theorem rb_s (hc : 0 < c) (ho : ok c = true) : rbF f ok (c + 1) = imx (rbF f ok c) (f c) := by
  rw [rbF, if_neg (by omega)]
  unfold imx
  by_cases z : rbF f ok c < f c
  · rw [if_pos ⟨ho, z⟩, if_pos z]
  · rw [if_neg (fun q => z q.2), if_neg z]
theorem ra_s (hc : 0 < c) (ho : ok c = true) : raF f ok (c + 1) = if rbF f ok c < f c then c else raF f ok c := by
  rw [raF, if_neg (by omega)]
  by_cases z : rbF f ok c < f c
  · rw [if_pos ⟨ho, z⟩, if_pos z]
  · rw [if_neg (fun q => z q.2), if_neg z]
theorem GJ.yb (hl : -8 ≤ lo ∧ lo ≤ 8) (hh : -8 ≤ hi ∧ hi ≤ 8) (hf : ∀ c, -(nv : Int) ≤ f c ∧ f c ≤ nv) (hv : nv ≤ 8) (q : GJ f ok lo hi nv rt c B bm) (a : AB (f c) (imx lo B) hi y) : -8 ≤ y ∧ y ≤ 8 := by
  have h1 := q.bd hl
  have h2 := hf c
  by_cases c1 : f c ≤ imx lo B
  · have := a.1 c1; omega
  · by_cases c2 : hi ≤ f c
    · have := a.2.1 c2; omega
    · have := a.2.2 (by omega) (by omega); omega
theorem GJ.mx (hl : -8 ≤ lo ∧ lo ≤ 8) (hh : -8 ≤ hi ∧ hi ≤ 8) (hf : ∀ c, -(nv : Int) ≤ f c ∧ f c ≤ nv) (hv : nv ≤ 8) (q : GJ f ok lo hi nv rt c B bm) (a : AB (f c) (imx lo B) hi y) : -8 ≤ imx B y ∧ imx B y ≤ 8 := by
  have h1 := q.bd hl
  have h2 := q.yb hl hh hf hv a
  unfold imx
  split
  · omega
  · rename_i z
    omega
theorem GJ.step (hl : -8 ≤ lo ∧ lo ≤ 8) (hh : -8 ≤ hi ∧ hi ≤ 8) (hf : ∀ c, -(nv : Int) ≤ f c ∧ f c ≤ nv) (hv : nv ≤ 8) (hw : lo < hi ∨ nv = 0) (hr : rt → lo = -(nv : Int) ∧ hi = nv) (ho : c = 0 ∨ ok c = true) (q : GJ f ok lo hi nv rt c B bm) (a : AB (f c) (imx lo B) hi y) (ay : nv = 0 → y = 0) :
    (imx lo (imx B y) < hi → GJ f ok lo hi nv rt (c + 1) (imx B y) (if B < y then chV c else bm)) ∧
    (hi ≤ imx lo (imx B y) → (nv = 0 → imx B y = 0) ∧ (¬ nv = 0 → hi ≤ imx B y ∧ imx B y ≤ rbF f ok (c + 1)) ∧ (rt → ¬ nv = 0 → imx B y = rbF f ok (c + 1)) ∧ (rt → (if B < y then chV c else bm) = chV (raF f ok (c + 1)))) := by
  have b1 := q.bd hl
  have b2 := q.yb hl hh hf hv a
  have b3 := q.mx hl hh hf hv a
  have h0 : nv = 0 → imx B y = 0 := fun z => by
    rcases q with ⟨-, rfl, -⟩ | ⟨-, -, -, e, -⟩
    · rw [ay z]; rfl
    · rw [ay z, e z]; rfl
  have hx : ¬ nv = 0 → (imx lo (imx B y) < hi → RE lo (imx B y) (rbF f ok (c + 1))) ∧ (hi ≤ imx lo (imx B y) → hi ≤ imx B y ∧ imx B y ≤ rbF f ok (c + 1)) := fun z => by
    have w : lo < hi := hw.resolve_right z
    rcases q with ⟨rfl, rfl, -⟩ | ⟨hc, -, -, -, e, -⟩
    · rw [imx_a hl.1] at a
      rw [show imx (-100) y = y from (imx_i _ _).1 (by omega)]
      exact RE.fs w a
    · rw [rb_s hc (ho.resolve_left (by omega))]
      exact RE.go w (e z).1 (e z).2 a
  have hz : ∀ t, 0 < t → nv = 0 → rbF f ok t = 0 := fun t ht z => by
    have := rb_bd (f := f) (ok := ok) hf ht
    omega
  have hrt : rt → imx B y = rbF f ok (c + 1) ∧ (if B < y then chV c else bm) = chV (raF f ok (c + 1)) := fun r => by
    obtain ⟨r1, r2⟩ := hr r
    have fc := hf c
    rcases q with ⟨rfl, rfl, rfl⟩ | ⟨hc, q1, q2, -, -, e⟩
    · rw [imx_a hl.1] at a
      rw [show imx (-100) y = y from (imx_i _ _).1 (by omega), if_pos (by omega)]
      refine ⟨?_, rfl⟩
      show y = f 0
      by_cases c1 : f 0 ≤ lo
      · have := a.1 c1; omega
      · by_cases c2 : hi ≤ f 0
        · have := a.2.1 c2; omega
        · exact a.2.2 (by omega) (by omega)
    · obtain ⟨e1, e2⟩ := e r
      have rbb := rb_bd (f := f) (ok := ok) hf hc
      have eF : imx lo B = B := by unfold imx; split <;> omega
      rw [eF] at a
      rw [rb_s hc (ho.resolve_left (by omega)), ra_s hc (ho.resolve_left (by omega)), ← e1]
      by_cases c1 : f c ≤ B
      · have := a.1 c1
        rw [(imx_i B (f c)).2 (by omega), (imx_i B y).2 (by omega), if_neg (by omega), if_neg (by omega)]
        exact ⟨rfl, e2⟩
      · have ey : y = f c := by
          by_cases c2 : hi ≤ f c
          · have := a.2.1 c2; omega
          · exact a.2.2 (by omega) (by omega)
        rw [ey, (imx_i B (f c)).1 (by omega), if_pos (by omega), if_pos (by omega)]
        exact ⟨rfl, rfl⟩
  refine ⟨fun z => Or.inr ⟨by omega, b3.1, b3.2, h0, fun n => ⟨z, (hx n).1 z⟩, hrt⟩, fun z => ⟨h0, fun n => (hx n).2 z, fun r _ => (hrt r).1, fun r => (hrt r).2⟩⟩
theorem GJ.skip (hc : 0 < c) (ho : ok c = false) (q : GJ f ok lo hi nv rt c B bm) : GJ f ok lo hi nv rt (c + 1) B bm := by
  have e1 : rbF f ok (c + 1) = rbF f ok c := by rw [rbF, if_neg (by omega), if_neg (fun z => by rw [ho] at z; exact absurd z.1 (by decide))]
  have e2 : raF f ok (c + 1) = raF f ok c := by rw [raF, if_neg (by omega), if_neg (fun z => by rw [ho] at z; exact absurd z.1 (by decide))]
  rcases q with ⟨z, -⟩ | q
  · omega
  · refine Or.inr ⟨by omega, q.2.1, q.2.2.1, q.2.2.2.1, ?_, ?_⟩
    · rw [e1]; exact q.2.2.2.2.1
    · rw [e1, e2]; exact q.2.2.2.2.2
theorem GJ.end (hN : 0 < N) (hf : ∀ c, -(nv : Int) ≤ f c ∧ f c ≤ nv) (q : GJ f ok lo hi nv rt N B bm) : AB (rbF f ok N) lo hi B ∧ (nv = 0 → B = 0) ∧ (-8 ≤ B ∧ B ≤ 8) ∧ (rt → bm = chV (raF f ok N)) := by
  rcases q with ⟨z, -⟩ | ⟨-, b1, b2, z0, z1, z2⟩
  · omega
  · refine ⟨?_, z0, ⟨b1, b2⟩, fun r => (z2 r).2⟩
    by_cases n : nv = 0
    · have := rb_bd (f := f) (ok := ok) hf hN
      rw [z0 n, show rbF f ok N = 0 by omega]
      exact AB.rf
    · obtain ⟨y1, y2⟩ := z1 n
      rcases y2 with rfl | ⟨y2, y3⟩
      · exact AB.rf
      · have : lo < hi := by unfold imx at y1; split at y1 <;> omega
        exact ⟨fun _ => ⟨y2, y3⟩, fun a => by omega, fun a => by omega⟩
theorem GJ.br (hN : c + 1 ≤ N) (hl : -8 ≤ lo ∧ lo ≤ 8) (hw : lo < hi ∨ nv = 0) (hf : ∀ c, -(nv : Int) ≤ f c ∧ f c ≤ nv) (hr : rt → lo = -(nv : Int) ∧ hi = nv) (b3 : -8 ≤ y ∧ y ≤ 8) (h0 : nv = 0 → y = 0) (hx : ¬ nv = 0 → hi ≤ y ∧ y ≤ rbF f ok (c + 1)) (ha : rt → bm = chV (raF f ok (c + 1))) : AB (rbF f ok N) lo hi y ∧ (nv = 0 → y = 0) ∧ (-8 ≤ y ∧ y ≤ 8) ∧ (rt → bm = chV (raF f ok N)) := by
  have hb : ∀ t, 0 < t → nv = 0 → rbF f ok t = 0 := fun t ht z => by
    have := rb_bd (f := f) (ok := ok) hf ht
    omega
  refine ⟨?_, h0, b3, fun r => ?_⟩
  · by_cases n : nv = 0
    · rw [h0 n, hb N (by omega) n]; exact AB.rf
    · obtain ⟨y1, y2⟩ := hx n
      have m := rb_mono f ok (show 0 < c + 1 by omega) hN
      have w : lo < hi := hw.resolve_right n
      exact ⟨fun a => by omega, fun a => by omega, fun a b => by omega⟩
  · rw [ha r]
    have hi0 := (hr r).2
    have e : (nv : Int) ≤ rbF f ok (c + 1) := by
      by_cases n : nv = 0
      · rw [hb (c + 1) (by omega) n]; omega
      · have := hx n; omega
    rw [(ra_stop (fun c => (hf c).2) (by omega) e hN).1]
end GJs
