/-! a night, as a function of lands -/
def warmF (S : MS) (x : Int32) : Int32 := if ¬ x < 0 ∧ x < 100 then S.2.1.1 x.toNatClampNeg else 0
def riseF (k : Nat) (bk w : Int32) (dg : Nat → Int32) : Nat → Int32 := fun m => if m < k ∧ ¬ bkd bk (nI m) then (if 99 < dg m + w then 99 else dg m + w) else dg m
/-- the mile behind, its own at the end -/
def bhd (mi m : Nat) : Nat := if m + 1 < mi then m + 1 else m
def wdF (S : MS) (L : ML) (w : Int32) (m : Nat) : Nat → Int64
  | 0 => (nI m).toInt64
  | 1 => (L.1 m).toInt64
  | 2 => (L.2.1 m).toInt64
  | 3 => (L.2.2.1 m).toInt64
  | 4 => S.1.2.2.2.toInt64
  | 5 => w.toInt64
  | 6 => L.2.2.2.2.2.toInt64
  | 7 => (L.1 (m - 1)).toInt64
  | 8 => (L.1 (bhd S.1.1 m)).toInt64
  | 9 => (nI (inC S L.1 m 0 S.1.2.1)).toInt64
  | 10 => (nI (inC S L.1 m 1 S.1.2.1)).toInt64
  | _ => (b2 (bkd L.2.2.2.2.1 (nI (m - 1))) + b2 (bkd L.2.2.2.2.1 (nI (bhd S.1.1 m)))).toInt64
def crpF (S : MS) (R : Option MR) (L : ML) (w : Int32) (m : Nat) : Int32 := match R with
  | none => mhold (L.2.1 m / 20 + S.1.2.2.2 - L.2.2.1 m) (-3) 3
  | some r => hold3 (crL r (wdF S L w m) r.1.1 0)
def feetF (S : MS) (R : Option MR) (L : ML) (w : Int32) (m : Nat) : Int32 := if bkd L.2.2.2.2.1 (nI m) then 0 else crpF S R L w m
def moveF (k : Nat) (ft l : Nat → Int32) : Nat → Int32 := fun m => if m < k then mhold (l m + ft m) (-20) 20 else l m
/-- how a mile comes nearer -/
def ngF (bk : Int32) (m : Nat) (nr : Int32) : Int32 := if bkd bk (nI m) then 0 else nr
def sag1 (bk : Int32) (m : Nat) (l : Nat → Int32) : Nat → Int32 :=
  if 4 < l m - l (m + 1) ∨ l m - l (m + 1) < -4 then jx_up (jx_up l m (l m + ngF bk m (if 0 < l m - l (m + 1) then -1 else 1))) (m + 1) (l (m + 1) - ngF bk (m + 1) (if 0 < l m - l (m + 1) then -1 else 1)) else l
def sagN (bk : Int32) : Nat → (Nat → Int32) → Nat → Int32
  | 0, l => l
  | k + 1, l => sag1 bk k (sagN bk k l)
/-- the land behind (1) -/
def risL (S : MS) (w : Int32) (L : ML) : ML := (L.1, riseF S.1.1 L.2.2.2.2.1 w L.2.1, L.2.2)
def linF (S : MS) (R : Option MR) (w : Int32) (L : ML) : Nat → Int32 := sagN L.2.2.2.2.1 (S.1.1 - 1) (moveF S.1.1 (feetF S R (risL S w L) w) L.1)
def croF (S : MS) (l l' c : Nat → Int32) : Nat → Int32 := fun v => if v < S.1.2.1 ∧ ¬ sdM S l v = sdM S l' v then c v + 1 else c v
def nightF (S : MS) (R : Option MR) (w : Int32) (L : ML) : ML := (linF S R w L, riseF S.1.1 L.2.2.2.2.1 w L.2.1, L.2.2.1, croF S L.1 (linF S R w L) L.2.2.2.1, L.2.2.2.2.1, L.2.2.2.2.2 + 1)
/-! words asked by codes -/
theorem ev1_cg {wd wd' : Nat → Int64} (e : ∀ j, j < 12 → wd j = wd' j) {x : Int32} (ok : okC x) (st : List Int64) : ev1 wd x st = ev1 wd' x st := by
  unfold ev1
  by_cases c1 : ¬ x < 0
  · rw [if_pos c1, if_pos c1]
    by_cases c2 : x < 100000
    · rw [if_pos c2, if_pos c2]
    · rw [if_neg c2, if_neg c2]
      obtain ⟨j, hj, ej⟩ := vp_in_of (okw ok c1 c2) (by decide)
      rw [ej, nI_clamp (by omega), e j hj]
  · rw [if_neg c1, if_neg c1]
theorem evR_cg {wd wd' : Nat → Int64} (e : ∀ j, j < 12 → wd j = wd' j) {c : Nat → Int32} {m : Nat} (ho : ∀ j, j < m → okC (c j)) {a : Nat} : ∀ {n : Nat}, a + n ≤ m → evR c wd a n = evR c wd' a n
  | 0, _ => rfl
  | n + 1, h => by rw [evR, evR, evR_cg e ho (by omega), ev1_cg e (ho _ (by omega))]
theorem crL_cg {wd wd' : Nat → Int64} (e : ∀ j, j < 12 → wd j = wd' j) {r : MR} (wf : wfR r) (ho : ∀ j, j < r.1.2 → okC (r.2.1 j)) : ∀ {f c : Nat}, c + f ≤ r.1.1 → crL r wd f c = crL r wd' f c
  | 0, c, _ => by rw [crL, crL]
  | f + 1, c, h => by
    obtain ⟨w1, w2, w3, -⟩ := wf.2.2.2 c (by omega)
    rw [crL, crL, evR_cg e ho (by omega), evR_cg e ho (by omega), crL_cg e wf ho (by omega)]
theorem okS_C {s v : Int32} (h : okS s v) : okC (encR s v) := by
  rcases okS_c h with ⟨rfl, h1, h2, h3⟩ | ⟨rfl, h1, h2, ⟨n, hn, rfl⟩, -⟩ | ⟨-, -, h3, -⟩
  · obtain ⟨j, hj, e⟩ := nI_of h1
    rw [e] at h2
    exact Or.inr ⟨j, by have := (nI_ltI (b := 100000) hj (by decide)).mp h2; omega, e⟩
  · exact Or.inr ⟨100000 + n, by omega, by rw [← nI_add]; rfl⟩
  · exact Or.inl h3
theorem mRu.ok {I : Nat → Nat → Int32} {k : Nat} {r : MR} (h : mRu I k r) : ∀ j, j < r.1.2 → okC (r.2.1 j) := fun j hj => by
  obtain ⟨h1, h2⟩ := h.2.1 j hj
  rw [← h2]
  exact okS_C h1
/-! steps of loops -/
theorem sid_w {S : MS} {l : Nat → Int32} {k : Nat} (hk : k < 8) (c : sdM S l k = 0) : nI (sidN S l k) ||| (1 <<< (nI k &&& 31)) = nI (sidN S l (k + 1)) := by rw [sh1 k (by omega), fa_or, sidN, if_pos c]
theorem sh256 : ∀ k, k < 8 → (256 : Int32) <<< (nI k &&& 31) = nI (2 ^ (8 + k)) := by decide
theorem sid_e {S : MS} {l : Nat → Int32} {k : Nat} (hk : k < 8) (c : sdM S l k = 1) : nI (sidN S l k) ||| (256 <<< (nI k &&& 31)) = nI (sidN S l (k + 1)) := by rw [sh256 k hk, fa_or, sidN, if_neg (by rw [c]; decide), if_pos c]
theorem sid_o {S : MS} {l : Nat → Int32} {k : Nat} (c : sdM S l k = 2) : nI (sidN S l k) = nI (sidN S l (k + 1)) := by rw [sidN, if_neg (by rw [c]; decide), if_neg (by rw [c]; decide), Nat.or_zero]
theorem sid_cg {S : MS} {l l' : Nat → Int32} : ∀ {n : Nat}, (∀ v, v < n → sdM S l v = sdM S l' v) → sidN S l n = sidN S l' n
  | 0, _ => rfl
  | n + 1, h => by rw [sidN, sidN, sid_cg (fun v hv => h v (by omega)), h n (by omega)]
theorem riseF_s {k : Nat} {bk w : Int32} {dg : Nat → Int32} (c : ¬ bkd bk (nI k)) (m : Nat) : jx_up (riseF k bk w dg) k (if 99 < dg k + w then 99 else dg k + w) m = riseF (k + 1) bk w dg m := by
  unfold jx_up riseF
  by_cases e : m = k
  · subst e; rw [if_pos (show m = m from rfl), if_pos (show m < m + 1 ∧ ¬ bkd bk (nI m) from ⟨by omega, c⟩)]
  · rw [if_neg e]
    have : m < k + 1 ↔ m < k := by omega
    simp only [this]
theorem riseF_b {k : Nat} {bk w : Int32} {dg : Nat → Int32} (c : bkd bk (nI k)) (m : Nat) : riseF k bk w dg m = riseF (k + 1) bk w dg m := by
  unfold riseF
  by_cases e : m = k
  · subst e; rw [if_neg (fun z => z.2 c), if_neg (fun z => z.2 c)]
  · have : m < k + 1 ↔ m < k := by omega
    simp only [this]
theorem riseF_k {k : Nat} {bk w : Int32} {dg : Nat → Int32} {m : Nat} (h : k ≤ m) : riseF k bk w dg m = dg m := by unfold riseF; rw [if_neg (fun z => by omega)]
theorem moveF_s {k : Nat} {ft l : Nat → Int32} (m : Nat) : jx_up (moveF k ft l) k (mhold (l k + ft k) (-20) 20) m = moveF (k + 1) ft l m := by
  unfold jx_up moveF
  by_cases e : m = k
  · subst e; rw [if_pos rfl, if_pos (by omega)]
  · rw [if_neg e]
    have : m < k + 1 ↔ m < k := by omega
    simp only [this]
theorem moveF_k {k : Nat} {ft l : Nat → Int32} {m : Nat} (h : k ≤ m) : moveF k ft l m = l m := by unfold moveF; rw [if_neg (by omega)]
theorem moveF_cg {k : Nat} {ft ft' l l' : Nat → Int32} (h : ∀ m, m < k → ft m = ft' m) (e : ∀ m, m < 10 → l m = l' m) : ∀ m, m < 10 → moveF k ft l m = moveF k ft' l' m := fun m hm => by
  unfold moveF
  by_cases c : m < k
  · rw [if_pos c, if_pos c, h m c, e m hm]
  · rw [if_neg c, if_neg c, e m hm]
theorem sag1_cg {bk : Int32} {k : Nat} {l l' : Nat → Int32} (hk : k + 1 < 10) (e : ∀ m, m < 10 → l m = l' m) : ∀ m, m < 10 → sag1 bk k l m = sag1 bk k l' m := fun m hm => by
  unfold sag1
  rw [e k (by omega), e (k + 1) hk]
  split
  · unfold jx_up
    rw [e m hm]
  · exact e m hm
theorem sagN_cg {bk : Int32} {l l' : Nat → Int32} (e : ∀ m, m < 10 → l m = l' m) : ∀ {k : Nat}, k < 10 → ∀ m, m < 10 → sagN bk k l m = sagN bk k l' m
  | 0, _ => e
  | k + 1, hk => sag1_cg (by omega) (sagN_cg e (by omega))
/-! bounds -/
theorem mhold_bd {x lo hi : Int32} {a b : Int} (h1 : lo.toInt = a) (h2 : hi.toInt = b) (h : a ≤ b) : bdI (mhold x lo hi) a b := by
  unfold mhold bdI
  split
  · omega
  · split
    · omega
    · rename_i c1 c2
      rw [fa_lt] at c1 c2
      omega
theorem riseF_bd {k : Nat} {bk w : Int32} {dg : Nat → Int32} {m : Nat} (h : bdI (dg m) 0 99) (hw : bdI w 0 9) : bdI (riseF k bk w dg m) 0 99 := by
  unfold riseF
  split
  · have e := tI_add (x := dg m) (y := w) (by have := h.1; omega) (by have := h.2; omega) (by have := hw.1; omega) (by have := hw.2; omega)
    have := h.1
    have := hw.1
    unfold bdI
    split
    · decide
    · rename_i c
      rw [fa_lt, e, show (99 : Int32).toInt = 99 from rfl] at c
      rw [e]
      omega
  · exact h
theorem ngF_c (bk : Int32) (m : Nat) (nr : Int32) : ngF bk m nr = 0 ∨ ngF bk m nr = nr := by unfold ngF; split <;> simp
theorem sag1_bd {bk : Int32} {k : Nat} {l : Nat → Int32} (hk : k + 1 < 10) (h : ∀ m, m < 10 → bdI (l m) (-20) 20) : ∀ m, m < 10 → bdI (sag1 bk k l m) (-20) 20 := fun m hm => by
  have h1 := h k (by omega)
  have h2 := h (k + 1) hk
  unfold bdI at h1 h2
  have es := tI_sub (x := l k) (y := l (k + 1)) (by omega) (by omega) (by omega) (by omega)
  unfold sag1
  split
  · rename_i c
    rw [fa_lt, fa_lt, es, show (4 : Int32).toInt = 4 from rfl, show (-4 : Int32).toInt = -4 from rfl] at c
    have key : ∀ nr : Int32, (nr = if 0 < l k - l (k + 1) then -1 else 1) → bdI (l k + ngF bk k nr) (-20) 20 ∧ bdI (l (k + 1) - ngF bk (k + 1) nr) (-20) 20 := by
      intro nr hn
      have hc : (nr.toInt = -1 ∧ 0 < (l k).toInt - (l (k + 1)).toInt) ∨ (nr.toInt = 1 ∧ ¬ 0 < (l k).toInt - (l (k + 1)).toInt) := by
        rw [hn]
        by_cases c2 : 0 < l k - l (k + 1)
        · rw [if_pos c2]
          rw [fa_lt, es] at c2
          exact Or.inl ⟨rfl, c2⟩
        · rw [if_neg c2]
          rw [fa_lt, es] at c2
          exact Or.inr ⟨rfl, c2⟩
      unfold bdI
      constructor
      · rcases ngF_c bk k nr with e | e
        · rw [e, Int32.add_zero]; omega
        · rw [e, tI_add (by omega) (by omega) (by omega) (by omega)]; omega
      · rcases ngF_c bk (k + 1) nr with e | e
        · rw [e, Int32.sub_zero]; omega
        · rw [e, tI_sub (by omega) (by omega) (by omega) (by omega)]; omega
    obtain ⟨k1, k2⟩ := key _ rfl
    exact bd_up (bd_up (h m hm) k1) k2
  · exact h m hm
theorem sagN_bd {bk : Int32} {l : Nat → Int32} (h : ∀ m, m < 10 → bdI (l m) (-20) 20) : ∀ {k : Nat}, k < 10 → ∀ m, m < 10 → bdI (sagN bk k l m) (-20) 20
  | 0, _ => h
  | k + 1, hk => sag1_bd (by omega) (sagN_bd h (by omega))
theorem moveF_bd {k : Nat} {ft l : Nat → Int32} (h : ∀ m, m < 10 → bdI (l m) (-20) 20) : ∀ m, m < 10 → bdI (moveF k ft l m) (-20) 20 := fun m hm => by
  unfold moveF
  split
  · exact mhold_bd rfl rfl (by decide)
  · exact h m hm
theorem linF_bd {S : MS} {R : Option MR} {w : Int32} {L : ML} (hmi : S.1.1 ≤ 10) (h : ∀ m, m < 10 → bdI (L.1 m) (-20) 20) : ∀ m, m < 10 → bdI (linF S R w L m) (-20) 20 := sagN_bd (moveF_bd h) (by omega)
theorem wfL.night {n : Nat} {S : MS} {R : Option MR} {w : Int32} {L : ML} (hmi : S.1.1 ≤ 10) (hn : n < 100000) (hw : bdI w 0 9) (l : wfL n S.1.1 S.1.2.1 L) : wfL (n + 1) S.1.1 S.1.2.1 (nightF S R w L) := by
  obtain ⟨l1, l2, l3, N, l4, l5⟩ := l
  refine ⟨fun m hm => ⟨linF_bd hmi (fun m hm => (l1 m hm).1) m hm, riseF_bd (l1 m hm).2.1 hw, (l1 m hm).2.2⟩, fun v hv => ?_, l3, N + 1, by omega, ?_⟩
  · obtain ⟨c1, c2⟩ := l2 v hv
    show bdI (croF S L.1 _ L.2.2.2.1 v) 0 _ ∧ (_ → croF S L.1 _ L.2.2.2.1 v = 0)
    unfold croF
    have := c1.1
    have := c1.2
    split
    · rename_i z
      refine ⟨⟨?_, ?_⟩, fun q => absurd z.1 (by omega)⟩
      · rw [tI_add (by omega) (by omega) (by decide) (by decide), show (1 : Int32).toInt = 1 from rfl]; omega
      · rw [tI_add (by omega) (by omega) (by decide) (by decide), show (1 : Int32).toInt = 1 from rfl]; omega
    · exact ⟨c1.wk (by omega) (by omega), c2⟩
  · show L.2.2.2.2.2 + 1 = nI (N + 1)
    rw [l5, nI_1]
theorem warmF_bd {S : MS} (w : wfS S) (x : Int32) : bdI (warmF S x) 0 9 := by
  unfold warmF
  split
  · rename_i c
    obtain ⟨j, hj, rfl⟩ := nI_of c.1
    rw [nI_clamp hj]
    exact w.2.2.2.2.1 j ((nI_ltI (b := 100) hj (by decide)).mp c.2)
  · exact bd0 (by decide) (by decide)
