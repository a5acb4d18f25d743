/-! THE MATHEMATICAL STATE, its two pictures, the invariant. -/
/-- a land: line, dough, salt, crossed; baked (bits), night -/
abbrev ML : Type := (Nat → Int32) × (Nat → Int32) × (Nat → Int32) × (Nat → Int32) × Int32 × Int32
/-- a strip: (miles, villages, wants, damp); warmth, village's mile, place, owner, want's village, side; the land told -/
abbrev MS : Type := (Nat × Nat × Nat × Int32) × ((Nat → Int32) × (Nat → Int32) × (Nat → Int32) × (Nat → Int32) × (Nat → Int32) × (Nat → Int32)) × ML
/-- a world: strip, land, (force, x), logs, past -/
abbrev MW : Type := MS × ML × (Int32 × Int32) × (Nat × (Nat → Int32) × (Nat → Int32) × (Nat → Int32)) × (Nat × (Nat → ML))
/-- a rule: (clauses, size); code; where a clause's sum, test, end lie -/
abbrev MR : Type := (Nat × Nat) × (Nat → Int32) × (Nat → Nat) × (Nat → Nat) × (Nat → Nat)
/-! the class's pictures -/
def rL (I : Nat → Nat → Int32) (a : Nat) (L : ML) : Prop := (∀ m, m < 10 → I (a + 1) m = L.1 m) ∧ (∀ m, m < 10 → I (a + 2) m = L.2.1 m) ∧ (∀ m, m < 10 → I (a + 3) m = L.2.2.1 m) ∧ (∀ v, v < 8 → I (a + 4) v = L.2.2.2.1 v) ∧ I a 4 = L.2.2.2.2.1 ∧ I a 5 = L.2.2.2.2.2
/-- the villages of a mile, as bits -/
def mk_in (vm : Nat → Int32) (m : Int32) : Nat → Int32
  | 0 => 0
  | v + 1 => if vm v = m then mk_in vm m v ||| (1 <<< (nI v &&& 31)) else mk_in vm m v
def rS (I : Nat → Nat → Int32) (a : Nat) (S : MS) : Prop :=
  (I a 0 = nI S.1.1 ∧ I a 1 = S.1.2.2.2 ∧ I a 2 = nI S.1.2.1 ∧ I a 3 = nI S.1.2.2.1) ∧ (∀ j, j < 100 → I (a + 1) j = S.2.1.1 j) ∧
  (∀ v, v < S.1.2.1 → I (a + 2) v = S.2.1.2.1 v ∧ I (a + 3) v = S.2.1.2.2.1 v ∧ I (a + 4) v = S.2.1.2.2.2.1 v) ∧ (∀ m, m < 10 → I (a + 5) m = mk_in S.2.1.2.1 (nI m) S.1.2.1) ∧
  (∀ w, w < S.1.2.2.1 → I (a + 6) w = S.2.1.2.2.2.2.1 w ∧ I (a + 7) w = S.2.1.2.2.2.2.2 w) ∧ rL I (a + 8) S.2.2
def cP (r : Nat → Int32) (L : ML) : Prop := (∀ m, m < 10 → r m = L.1 m ∧ r (10 + m) = L.2.1 m ∧ r (20 + m) = L.2.2.1 m) ∧ (∀ v, v < 8 → r (30 + v) = L.2.2.2.1 v) ∧ r 38 = L.2.2.2.2.1 ∧ r 39 = L.2.2.2.2.2
/-- where a strip may lie -/
def sA (s : Nat) : Prop := s = 27 ∨ s = 162 ∨ s = 185 ∨ s = 208 ∨ s = 231 ∨ 304 ≤ s
def rW (h : jx_H) (w : Nat) (X : MW) : Prop :=
  (∃ s, h.2.2.2 w 0 = some s ∧ sA s ∧ jx_Sp h s ∧ rS h.2.1 s X.1) ∧ rL h.2.1 (w + 14) X.2.1 ∧ (h.2.1 w 2 = X.2.2.1.1 ∧ h.2.1 w 3 = X.2.2.1.2) ∧
  (h.2.1 w 4 = nI X.2.2.2.1.1 ∧ ∀ k, k < X.2.2.2.1.1 → h.2.1 (w + 19) k = X.2.2.2.1.2.1 k ∧ h.2.1 (w + 20) k = X.2.2.2.1.2.2.1 k ∧ h.2.1 (w + 21) k = X.2.2.2.1.2.2.2 k) ∧
  (∃ o, o < 20 ∧ h.2.1 w 9 = nI o ∧ h.2.1 w 10 = nI X.2.2.2.2.1 ∧ ∀ i, i < X.2.2.2.2.1 → cP (fun j => h.2.1 (w + 22) ((o + i) % 20 * 40 + j)) (X.2.2.2.2.2 i))
/-! the model's pictures, by a reading g of its arrays -/
def mLa (g : Nat → Nat → Int32) (L : ML) : Prop := (∀ m, m < 10 → g 255 m = L.1 m ∧ g 256 m = L.2.1 m ∧ g 257 m = L.2.2.1 m) ∧ (∀ v, v < 8 → g 262 v = L.2.2.2.1 v) ∧ g 254 4 = L.2.2.2.2.1 ∧ g 254 5 = L.2.2.2.2.2
def mSt (g : Nat → Nat → Int32) (S : MS) : Prop :=
  (g 254 0 = nI S.1.1 ∧ g 254 1 = S.1.2.2.2 ∧ g 254 2 = nI S.1.2.1 ∧ g 254 3 = nI S.1.2.2.1) ∧ (∀ j, j < 100 → g 258 j = S.2.1.1 j) ∧
  (∀ v, v < S.1.2.1 → g 259 v = S.2.1.2.1 v ∧ g 260 v = S.2.1.2.2.1 v ∧ g 261 v = S.2.1.2.2.2.1 v) ∧
  (∀ w, w < S.1.2.2.1 → g 263 w = S.2.1.2.2.2.2.1 w ∧ g 264 w = S.2.1.2.2.2.2.2 w) ∧ (∀ m, m < 10 → g 268 m = S.2.2.2.1 m) ∧ g 269 0 = S.2.2.2.2.2.2.1
def mP (r : Nat → Int32) (L : ML) : Prop := r 0 = L.2.2.2.2.1 ∧ r 1 = L.2.2.2.2.2 ∧ (∀ m, m < 10 → r (2 + m) = L.1 m ∧ r (12 + m) = L.2.1 m ∧ r (22 + m) = L.2.2.1 m) ∧ ∀ v, v < 8 → r (32 + v) = L.2.2.2.1 v
def mW (g : Nat → Nat → Int32) (X : MW) : Prop :=
  mSt g X.1 ∧ mLa g X.2.1 ∧ (g 254 8 = X.2.2.1.1 ∧ g 254 7 = X.2.2.1.2) ∧ (g 254 6 = nI X.2.2.2.1.1 ∧ ∀ k, k < X.2.2.2.1.1 → g 265 k = X.2.2.2.1.2.1 k ∧ g 266 k = X.2.2.2.1.2.2.1 k ∧ g 267 k = X.2.2.2.1.2.2.2 k) ∧
  (g 293 0 = nI X.2.2.2.2.1 ∧ ∀ i, i < X.2.2.2.2.1 → mP (fun j => g 292 (40 * i + j)) (X.2.2.2.2.2 i))
/-- the arrays as they are now -/
def gN (h : jx_H) : Nat → Nat → Int32 := fun a j => if a = 293 then h.2.1 253 51 else h.2.1 a j
/-- where an array begins within an image -/
def gO : Nat → Nat
  | 254 => 0 | 255 => 9 | 256 => 19 | 257 => 29 | 262 => 39 | 293 => 47 | 258 => 48 | 259 => 148 | 260 => 156 | 261 => 164 | 263 => 172 | 264 => 180 | 265 => 188 | 266 => 198 | 267 => 208 | 268 => 218 | 269 => 228 | 292 => 229
  | _ => 0
def gI (h : jx_H) (k : Nat) : Nat → Nat → Int32 := fun a j => h.2.1 302 (1100 * k + gO a + j)
/-! rules -/
/-- class's code of an entry of the model -/
def encR (s v : Int32) : Int32 := if s = 0 then v else if s = 1 then 100000 + v else if s = 2 then -1 else if s = 3 then -2 else if s = 13 then -3 else if s = 14 then -4 else if s = 15 then -5 else if s = 4 then -6 else if s = 5 then -7 else if s = 6 then -8 else if s = 7 then -9 else if s = 8 then -10 else if s = 10 then -11 else if s = 11 then -12 else -13
def rR (I : Nat → Nat → Int32) (a : Nat) (r : MR) : Prop := I a 1 = nI r.1.2 ∧ I a 5 = nI r.1.1 ∧ (∀ j, j < r.1.2 → I (a + 1) j = r.2.1 j) ∧ ∀ c, c < r.1.1 → I (a + 2) c = nI (r.2.2.1 c) ∧ I (a + 3) c = nI (r.2.2.2.1 c) ∧ I (a + 4) c = nI (r.2.2.2.2 c)
def okS (s v : Int32) : Prop := (s = 0 ∧ ∃ n : Nat, n < 100000 ∧ v = nI n) ∨ (s = 1 ∧ ∃ n : Nat, n < 12 ∧ v = nI n) ∨ s = 2 ∨ s = 3 ∨ s = 4 ∨ s = 5 ∨ s = 6 ∨ s = 7 ∨ s = 8 ∨ s = 9 ∨ s = 10 ∨ s = 11 ∨ s = 13 ∨ s = 14 ∨ s = 15
def mRu (I : Nat → Nat → Int32) (k : Nat) (r : MR) : Prop := I 283 k = nI r.1.1 ∧ (∀ j, j < r.1.2 → okS (I 281 (300 * k + j)) (I 282 (300 * k + j)) ∧ encR (I 281 (300 * k + j)) (I 282 (300 * k + j)) = r.2.1 j) ∧ ∀ c, c < r.1.1 → I 284 (12 * k + c) = nI (r.2.2.1 c) ∧ I 285 (12 * k + c) = nI (r.2.2.2.1 c) ∧ I 286 (12 * k + c) = nI (r.2.2.2.2 c)
/-- what lies on the stack behind an entry, by kind (true: a truth); none: it can't be done -/
def rpt1 (x : Int32) (t : List Bool) : Option (List Bool) :=
  if ¬ x < 0 then some (false :: t)
  else if x = -13 then (match t with | true :: u => some (true :: u) | _ => none)
  else if x = -11 ∨ x = -12 then (match t with | true :: true :: u => some (true :: u) | _ => none)
  else (match t with | _ :: _ :: u => some (decide (x < -5) :: u) | _ => none)
def rpt (c : Nat → Int32) (a : Nat) : Nat → List Bool → Option (List Bool)
  | 0, t => some t
  | n + 1, t => match rpt c a n t with
    | none => none
    | some u => rpt1 (c (a + n)) u
def wfR (r : MR) : Prop := r.1.1 ≤ 12 ∧ r.1.2 ≤ 253 ∧ fa_cnt (fun j => decide (¬ r.2.1 j < 0)) r.1.2 ≤ 60 ∧ ∀ c, c < r.1.1 → r.2.2.1 c ≤ r.2.2.2.1 c ∧ r.2.2.2.1 c ≤ r.2.2.2.2 c ∧ r.2.2.2.2 c ≤ r.1.2 ∧ rpt r.2.1 (r.2.2.1 c) (r.2.2.2.1 c - r.2.2.1 c) [] = some [false] ∧ (r.2.2.2.1 c = r.2.2.2.2 c ∨ rpt r.2.1 (r.2.2.2.1 c) (r.2.2.2.2 c - r.2.2.2.1 c) [] = some [true])
/-! what is always so of the mathematical state -/
def bdI (x : Int32) (lo hi : Int) : Prop := lo ≤ x.toInt ∧ x.toInt ≤ hi
def wfL (n mi nv : Nat) (L : ML) : Prop := (∀ m, m < 10 → bdI (L.1 m) (-20) 20 ∧ bdI (L.2.1 m) 0 99 ∧ bdI (L.2.2.1 m) 0 9) ∧ (∀ v, v < 8 → bdI (L.2.2.2.1 v) 0 n ∧ (nv ≤ v → L.2.2.2.1 v = 0)) ∧ (∃ B : Nat, B < 2 ^ mi ∧ L.2.2.2.2.1 = nI B) ∧ ∃ N : Nat, N ≤ n ∧ L.2.2.2.2.2 = nI N
def wfS (S : MS) : Prop := (S.1.1 = 0 ∧ S.1.2.1 = 0 ∧ S.1.2.2.1 = 0 ∨ 2 ≤ S.1.1 ∧ S.1.1 ≤ 10) ∧ S.1.2.1 ≤ 8 ∧ S.1.2.2.1 ≤ 8 ∧ bdI S.1.2.2.2 0 3 ∧ (∀ j, j < 100 → bdI (S.2.1.1 j) 0 9) ∧
  (∀ v, v < S.1.2.1 → (∃ m, m < S.1.1 ∧ S.2.1.2.1 v = nI m) ∧ bdI (S.2.1.2.2.1 v) (-20) 20 ∧ (S.2.1.2.2.2.1 v = 0 ∨ S.2.1.2.2.2.1 v = 1)) ∧
  (∀ w, w < S.1.2.2.1 → (∃ v, v < S.1.2.1 ∧ S.2.1.2.2.2.2.1 w = nI v) ∧ (S.2.1.2.2.2.2.2 w = 0 ∨ S.2.1.2.2.2.2.2 w = 1)) ∧ wfL 0 S.1.1 S.1.2.1 S.2.2
def wfW (n nr : Nat) (X : MW) : Prop := wfS X.1 ∧ wfL n X.1.1.1 X.1.1.2.1 X.2.1 ∧ (X.2.2.1.1 = -1 ∨ ∃ f, f < nr ∧ X.2.2.1.1 = nI f) ∧ bdI X.2.2.1.2 0 2147483647 ∧
  (X.2.2.2.1.1 ≤ 10 ∧ ∀ k, k < X.2.2.2.1.1 → (∃ a, a ≤ 30 ∧ X.2.2.2.1.2.1 k = nI a) ∧ (∃ m, m < X.1.1.1 ∧ X.2.2.2.1.2.2.1 k = nI m) ∧ ∃ e, e ≤ 99 ∧ X.2.2.2.1.2.2.2 k = nI e) ∧
  (X.2.2.2.2.1 ≤ 20 ∧ ∀ i, i < X.2.2.2.2.1 → wfL n X.1.1.1 X.1.1.2.1 (X.2.2.2.2.2 i))
/-- the law of nights is as the world has it -/
def lawOK (h : jx_H) (X : MW) : Prop := 0 < X.1.1.1 → h.2.2.2 51 0 = h.2.2.2 26 0 ∧ (X.2.2.1.1 = -1 → h.2.2.2 51 1 = none) ∧ ∀ f : Nat, X.2.2.1.1 = nI f → f < 6 → h.2.2.2 51 1 = some (125 + 6 * f)
def tapeOK (h : jx_H) (t : Nat) : Prop := t ≤ 400 ∧ h.2.1 2 1 = nI t ∧ h.2.1 253 27 = nI t ∧ ∀ j, j < t → h.2.1 3 j = h.2.1 280 j &&& 255 ∧ (h.2.1 280 j).toInt8.toInt32 = h.2.1 280 j
def rulesOK (h : jx_H) (nr : Nat) (rs : Nat → MR) : Prop := nr ≤ 6 ∧ h.2.1 1 4 = nI nr ∧ h.2.1 253 31 = nI nr ∧ ∀ k, k < nr → rR h.2.1 (125 + 6 * k) (rs k) ∧ mRu h.2.1 k (rs k) ∧ wfR (rs k)
def imgOK (h : jx_H) (n nr : Nat) (Y : Nat → MW) (k : Nat) : Prop := (h.2.1 50 k = 0 ∧ h.2.1 303 k = 0) ∨ (h.2.1 50 k = 1 ∧ h.2.1 303 k = 1 ∧ rW h (161 + 23 * k) (Y k) ∧ mW (gI h k) (Y k) ∧ wfW n nr (Y k))
def InvX (n : Nat) (h : jx_H) (t nr : Nat) (rs : Nat → MR) (X : MW) (Y : Nat → MW) : Prop :=
  jx_St h ∧ (h.1.length ≤ 304 + 13 * n ∧ h.2.1 253 36 = 12) ∧ tapeOK h t ∧ rulesOK h nr rs ∧ rW h 26 X ∧ mW (gN h) X ∧ wfW n nr X ∧ lawOK h X ∧ ∀ k, k < 4 → imgOK h n nr Y k
def Inv (n : Nat) (h : jx_H) : Prop := ∃ (t nr : Nat) (rs : Nat → MR) (X : MW) (Y : Nat → MW), InvX n h t nr rs X Y
