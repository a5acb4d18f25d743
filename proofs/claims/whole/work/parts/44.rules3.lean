/-! branches over numbers; bits; the mathematics of a night -/
section JN
variable {d bc bs i pc : Nat} {lv : List (Option Value)} {st : List Value} {h : jx_H} {Q : Option Value → jx_H → Prop}
theorem jn_iclt {a b : Nat} {off : Int} (tgt : Nat) (hd : decode (jm_b i) pc = .ok (.if_icmp .lt off, 3)) (ht : (pc : Int) + off = (tgt : Int)) (ha : a < 2 ^ 31) (hb : b < 2 ^ 31) (kt : a < b → jx_Ev d bc bs i tgt lv st h Q) (kf : b ≤ a → jx_Ev d bc bs i (pc + 3) lv st h Q) : jx_Ev d bc bs i pc lv (.int (nI b) :: .int (nI a) :: st) h Q := je_iclt tgt hd ht (fun c => kt ((nI_ltI ha hb).mp c)) (fun c => kf (Nat.not_lt.mp (fun z => c ((nI_ltI ha hb).mpr z))))
theorem jn_icge {a b : Nat} {off : Int} (tgt : Nat) (hd : decode (jm_b i) pc = .ok (.if_icmp .ge off, 3)) (ht : (pc : Int) + off = (tgt : Int)) (ha : a < 2 ^ 31) (hb : b < 2 ^ 31) (kt : b ≤ a → jx_Ev d bc bs i tgt lv st h Q) (kf : a < b → jx_Ev d bc bs i (pc + 3) lv st h Q) : jx_Ev d bc bs i pc lv (.int (nI b) :: .int (nI a) :: st) h Q := ju_icge tgt hd ht (fun c => kt (Nat.not_lt.mp (fun z => c ((nI_ltI ha hb).mpr z)))) (fun c => kf ((nI_ltI ha hb).mp c))
theorem jn_icgt {a b : Nat} {off : Int} (tgt : Nat) (hd : decode (jm_b i) pc = .ok (.if_icmp .gt off, 3)) (ht : (pc : Int) + off = (tgt : Int)) (ha : a < 2 ^ 31) (hb : b < 2 ^ 31) (kt : b < a → jx_Ev d bc bs i tgt lv st h Q) (kf : a ≤ b → jx_Ev d bc bs i (pc + 3) lv st h Q) : jx_Ev d bc bs i pc lv (.int (nI b) :: .int (nI a) :: st) h Q := je_icgt tgt hd ht (fun c => kt ((nI_ltI hb ha).mp c)) (fun c => kf (Nat.not_lt.mp (fun z => c ((nI_ltI hb ha).mpr z))))
theorem jn_icle {a b : Nat} {off : Int} (tgt : Nat) (hd : decode (jm_b i) pc = .ok (.if_icmp .le off, 3)) (ht : (pc : Int) + off = (tgt : Int)) (ha : a < 2 ^ 31) (hb : b < 2 ^ 31) (kt : a ≤ b → jx_Ev d bc bs i tgt lv st h Q) (kf : b < a → jx_Ev d bc bs i (pc + 3) lv st h Q) : jx_Ev d bc bs i pc lv (.int (nI b) :: .int (nI a) :: st) h Q := ju_icle tgt hd ht (fun c => kt (Nat.not_lt.mp (fun z => c ((nI_ltI hb ha).mpr z)))) (fun c => kf ((nI_ltI hb ha).mp c))
theorem jn_iceq {a b : Nat} {off : Int} (tgt : Nat) (hd : decode (jm_b i) pc = .ok (.if_icmp .eq off, 3)) (ht : (pc : Int) + off = (tgt : Int)) (ha : a < 2 ^ 31) (hb : b < 2 ^ 31) (kt : a = b → jx_Ev d bc bs i tgt lv st h Q) (kf : ¬ a = b → jx_Ev d bc bs i (pc + 3) lv st h Q) : jx_Ev d bc bs i pc lv (.int (nI b) :: .int (nI a) :: st) h Q := je_iceq tgt hd ht (fun c => kt ((nI_eq ha hb).mp c)) (fun c => kf (fun z => c ((nI_eq ha hb).mpr z)))
theorem jn_icne {a b : Nat} {off : Int} (tgt : Nat) (hd : decode (jm_b i) pc = .ok (.if_icmp .ne off, 3)) (ht : (pc : Int) + off = (tgt : Int)) (ha : a < 2 ^ 31) (hb : b < 2 ^ 31) (kt : ¬ a = b → jx_Ev d bc bs i tgt lv st h Q) (kf : a = b → jx_Ev d bc bs i (pc + 3) lv st h Q) : jx_Ev d bc bs i pc lv (.int (nI b) :: .int (nI a) :: st) h Q := je_icne tgt hd ht (fun c => kt (fun z => c ((nI_eq ha hb).mpr z))) (fun c => kf ((nI_eq ha hb).mp c))
theorem jn_iflt {a : Nat} {off : Int} (tgt : Nat) (hd : decode (jm_b i) pc = .ok (.ifCond .lt off, 3)) (ht : (pc : Int) + off = (tgt : Int)) (ha : a < 2 ^ 31) (kt : a < 0 → jx_Ev d bc bs i tgt lv st h Q) (kf : 0 ≤ a → jx_Ev d bc bs i (pc + 3) lv st h Q) : jx_Ev d bc bs i pc lv (.int (nI a) :: st) h Q := je_iflt tgt hd ht (fun c => kt ((nI_ltI (b := 0) ha (by decide : (0 : Nat) < 2 ^ 31)).mp c)) (fun c => kf (Nat.not_lt.mp (fun z => c ((nI_ltI (b := 0) ha (by decide : (0 : Nat) < 2 ^ 31)).mpr z))))
theorem jn_ifge {a : Nat} {off : Int} (tgt : Nat) (hd : decode (jm_b i) pc = .ok (.ifCond .ge off, 3)) (ht : (pc : Int) + off = (tgt : Int)) (ha : a < 2 ^ 31) (kt : 0 ≤ a → jx_Ev d bc bs i tgt lv st h Q) (kf : a < 0 → jx_Ev d bc bs i (pc + 3) lv st h Q) : jx_Ev d bc bs i pc lv (.int (nI a) :: st) h Q := ju_ifge tgt hd ht (fun c => kt (Nat.not_lt.mp (fun z => c ((nI_ltI (b := 0) ha (by decide : (0 : Nat) < 2 ^ 31)).mpr z)))) (fun c => kf ((nI_ltI (b := 0) ha (by decide : (0 : Nat) < 2 ^ 31)).mp c))
theorem jn_ifgt {a : Nat} {off : Int} (tgt : Nat) (hd : decode (jm_b i) pc = .ok (.ifCond .gt off, 3)) (ht : (pc : Int) + off = (tgt : Int)) (ha : a < 2 ^ 31) (kt : 0 < a → jx_Ev d bc bs i tgt lv st h Q) (kf : a ≤ 0 → jx_Ev d bc bs i (pc + 3) lv st h Q) : jx_Ev d bc bs i pc lv (.int (nI a) :: st) h Q := je_ifgt tgt hd ht (fun c => kt ((nI_ltI (a := 0) (by decide : (0 : Nat) < 2 ^ 31) ha).mp c)) (fun c => kf (Nat.not_lt.mp (fun z => c ((nI_ltI (a := 0) (by decide : (0 : Nat) < 2 ^ 31) ha).mpr z))))
theorem jn_ifle {a : Nat} {off : Int} (tgt : Nat) (hd : decode (jm_b i) pc = .ok (.ifCond .le off, 3)) (ht : (pc : Int) + off = (tgt : Int)) (ha : a < 2 ^ 31) (kt : a ≤ 0 → jx_Ev d bc bs i tgt lv st h Q) (kf : 0 < a → jx_Ev d bc bs i (pc + 3) lv st h Q) : jx_Ev d bc bs i pc lv (.int (nI a) :: st) h Q := ju_ifle tgt hd ht (fun c => kt (Nat.not_lt.mp (fun z => c ((nI_ltI (a := 0) (by decide : (0 : Nat) < 2 ^ 31) ha).mpr z)))) (fun c => kf ((nI_ltI (a := 0) (by decide : (0 : Nat) < 2 ^ 31) ha).mp c))
theorem jn_ifeq {a : Nat} {off : Int} (tgt : Nat) (hd : decode (jm_b i) pc = .ok (.ifCond .eq off, 3)) (ht : (pc : Int) + off = (tgt : Int)) (ha : a < 2 ^ 31) (kt : a = 0 → jx_Ev d bc bs i tgt lv st h Q) (kf : ¬ a = 0 → jx_Ev d bc bs i (pc + 3) lv st h Q) : jx_Ev d bc bs i pc lv (.int (nI a) :: st) h Q := je_ifeq tgt hd ht (fun c => kt ((nI_eq (b := 0) ha (by decide : (0 : Nat) < 2 ^ 31)).mp c)) (fun c => kf (fun z => c ((nI_eq (b := 0) ha (by decide : (0 : Nat) < 2 ^ 31)).mpr z)))
theorem jn_ifne {a : Nat} {off : Int} (tgt : Nat) (hd : decode (jm_b i) pc = .ok (.ifCond .ne off, 3)) (ht : (pc : Int) + off = (tgt : Int)) (ha : a < 2 ^ 31) (kt : ¬ a = 0 → jx_Ev d bc bs i tgt lv st h Q) (kf : a = 0 → jx_Ev d bc bs i (pc + 3) lv st h Q) : jx_Ev d bc bs i pc lv (.int (nI a) :: st) h Q := je_ifne tgt hd ht (fun c => kt (fun z => c ((nI_eq (b := 0) ha (by decide : (0 : Nat) < 2 ^ 31)).mpr z))) (fun c => kf ((nI_eq (b := 0) ha (by decide : (0 : Nat) < 2 ^ 31)).mp c))
theorem jb_ifne {q : Prop} {_ : Decidable q} {off : Int} (tgt : Nat) (hd : decode (jm_b i) pc = .ok (.ifCond .ne off, 3)) (ht : (pc : Int) + off = (tgt : Int)) (kt : q → jx_Ev d bc bs i tgt lv st h Q) (kf : ¬ q → jx_Ev d bc bs i (pc + 3) lv st h Q) : jx_Ev d bc bs i pc lv (.int (b2 q) :: st) h Q := je_ifne tgt hd ht (fun c => kt (b2_n c)) (fun c => kf (b2_0.mp c))
theorem jb_ifeq {q : Prop} {_ : Decidable q} {off : Int} (tgt : Nat) (hd : decode (jm_b i) pc = .ok (.ifCond .eq off, 3)) (ht : (pc : Int) + off = (tgt : Int)) (kt : ¬ q → jx_Ev d bc bs i tgt lv st h Q) (kf : q → jx_Ev d bc bs i (pc + 3) lv st h Q) : jx_Ev d bc bs i pc lv (.int (b2 q) :: st) h Q := je_ifeq tgt hd ht (fun c => kt (b2_0.mp c)) (fun c => kf (b2_n c))
theorem ju_tern1 {V : Int32} {x : Value} (J : Nat) (k : jx_Ev d bc bs i J lv (.int V :: st) h Q) (t : jx_Ev d bc bs i J lv (.int V :: st) h Q → jx_Ev d bc bs i pc lv (x :: st) h Q) : jx_Ev d bc bs i pc lv (x :: st) h Q := t k
theorem ju_tern2 {V : Int32} {x y : Value} (J : Nat) (k : jx_Ev d bc bs i J lv (.int V :: st) h Q) (t : jx_Ev d bc bs i J lv (.int V :: st) h Q → jx_Ev d bc bs i pc lv (x :: y :: st) h Q) : jx_Ev d bc bs i pc lv (x :: y :: st) h Q := t k
end JN
theorem nI_m1 (n : Nat) (h : 0 < n) : nI n + -1 = nI (n - 1) := by
  obtain ⟨k, rfl⟩ : ∃ k, n = k + 1 := ⟨n - 1, by omega⟩
  exact pk_m1 k
theorem sh_r {n k : Nat} (hn : n < 2 ^ 31) (hk : k < 32) : nI n >>> (nI k &&& 31) = nI (n / 2 ^ k) := pk_shrN hn _ k (s_l k hk)
theorem bk_b2 (b x : Int32) : (b >>> (x &&& 31)) &&& 1 = b2 (bkd b x) := by
  rcases and1 (b >>> (x &&& 31)) with e | e
  · exact e.trans (b2_f (q := bkd b x) (fun z => z e)).symm
  · exact e.trans (b2_t (q := bkd b x) (fun z => by rw [e] at z; exact absurd z (by decide))).symm
theorem sh8 {n : Nat} (hn : n < 2 ^ 31) : nI n >>> ((8 : Int32) &&& 31) = nI (n / 2 ^ 8) := sh_r (k := 8) hn (by decide)
theorem bkd_B {B m : Nat} (hB : B < 2 ^ 31) (hm : m < 32) : bkd (nI B) (nI m) ↔ B.testBit m = true := by
  unfold bkd
  rw [sh_r hB hm, pk_andN (show B / 2 ^ m < 2 ^ 32 from Nat.lt_of_le_of_lt (Nat.div_le_self _ _) (by omega)) 1 (by decide), nI_0e (by omega), Nat.testBit_eq_decide_div_mod_eq, decide_eq_true_eq]
  omega
theorem fa_cnt_stop {p : Nat → Bool} {n : Nat} : ∀ {m : Nat}, n ≤ m → (∀ i, n ≤ i → i < m → p i = false) → fa_cnt p m = fa_cnt p n
  | 0, h, _ => by rw [show n = 0 by omega]
  | m + 1, h, e => by
    by_cases c : n = m + 1
    · rw [c]
    · rw [fa_cnt_no (e m (by omega) (by omega))]
      exact fa_cnt_stop (by omega) (fun i h1 h2 => e i h1 (by omega))
theorem pop_cnt (b : Nat) : ∀ n, pop n b = fa_cnt b.testBit n
  | 0 => rfl
  | n + 1 => by rw [pop, fa_cnt, pop_cnt b n]
/-! sides -/
def vM (S : MS) (v : Nat) : Nat := (S.2.1.2.1 v).toNatClampNeg
def vP (S : MS) (v : Nat) : Int32 := S.2.1.2.2.1 v
def sdM (S : MS) (l : Nat → Int32) (v : Nat) : Int32 := sdV (l (vM S v)) (vP S v)
theorem sdV_0 {l q : Int32} (h : q < l) : sdV l q = 0 := if_pos h
theorem sdV_1 {l q : Int32} (h : ¬ q < l) (h2 : l < q) : sdV l q = 1 := by unfold sdV; rw [if_neg h, if_pos h2]
theorem sdV_2 {l q : Int32} (h : ¬ q < l) (h2 : ¬ l < q) : sdV l q = 2 := by unfold sdV; rw [if_neg h, if_neg h2]
theorem sdV_c (l q : Int32) : sdV l q = 0 ∨ sdV l q = 1 ∨ sdV l q = 2 := by
  unfold sdV
  split
  · exact Or.inl rfl
  · split
    · exact Or.inr (Or.inl rfl)
    · exact Or.inr (Or.inr rfl)
def sidN (S : MS) (l : Nat → Int32) : Nat → Nat
  | 0 => 0
  | v + 1 => sidN S l v ||| (if sdM S l v = 0 then 2 ^ v else if sdM S l v = 1 then 2 ^ (8 + v) else 0)
theorem sid1_bit {x : Int32} {n i : Nat} (hx : x = 0 ∨ x = 1 ∨ x = 2) : (if x = 0 then 2 ^ n else if x = 1 then 2 ^ (8 + n) else 0).testBit i = (decide (n = i ∧ x = 0) || decide (8 + n = i ∧ x = 1)) := by
  rcases hx with rfl | rfl | rfl
  · rw [if_pos rfl, Nat.testBit_two_pow]; simp
  · rw [if_neg (by decide), if_pos rfl, Nat.testBit_two_pow]; simp
  · rw [if_neg (by decide), if_neg (by decide)]; simp
theorem sidN_bit (S : MS) (l : Nat → Int32) (i : Nat) : ∀ n, n ≤ 8 → (sidN S l n).testBit i = (decide (i < n ∧ sdM S l i = 0) || decide (8 ≤ i ∧ i - 8 < n ∧ sdM S l (i - 8) = 1))
  | 0, _ => by rw [sidN]; simp
  | n + 1, hn => by
    rw [sidN, Nat.testBit_or, sidN_bit S l i n (by omega), sid1_bit (x := sdM S l n) (sdV_c _ _), Bool.eq_iff_iff]
    simp only [Bool.or_eq_true, decide_eq_true_eq]
    constructor
    · rintro ((⟨h1, h2⟩ | ⟨h1, h2, h3⟩) | (⟨rfl, h2⟩ | ⟨rfl, h2⟩))
      · exact Or.inl ⟨by omega, h2⟩
      · exact Or.inr ⟨h1, by omega, h3⟩
      · exact Or.inl ⟨by omega, h2⟩
      · exact Or.inr ⟨by omega, by omega, by rw [Nat.add_sub_cancel_left]; exact h2⟩
    · rintro (⟨h1, h2⟩ | ⟨h1, h2, h3⟩)
      · by_cases e : i = n
        · subst e; exact Or.inr (Or.inl ⟨rfl, h2⟩)
        · exact Or.inl (Or.inl ⟨by omega, h2⟩)
      · by_cases e : 8 + n = i
        · subst e; rw [Nat.add_sub_cancel_left] at h3; exact Or.inr (Or.inr ⟨rfl, h3⟩)
        · exact Or.inl (Or.inr ⟨h1, by omega, h3⟩)
theorem sidN_lt (S : MS) (l : Nat → Int32) {n : Nat} (hn : n ≤ 8) : sidN S l n < 2 ^ 16 := by
  apply Nat.lt_pow_two_of_testBit
  intro i hi
  rw [sidN_bit S l i n hn, Bool.or_eq_false_iff]
  exact ⟨decide_eq_false (fun z => by omega), decide_eq_false (fun z => by omega)⟩
def crN (S : MS) (l l' : Nat → Int32) : Nat → Nat
  | 0 => 0
  | v + 1 => crN S l l' v ||| (if sdM S l v = sdM S l' v then 0 else 2 ^ v)
theorem crN_bit (S : MS) (l l' : Nat → Int32) (i : Nat) : ∀ n, (crN S l l' n).testBit i = decide (i < n ∧ ¬ sdM S l i = sdM S l' i)
  | 0 => by rw [crN]; simp
  | n + 1 => by
    rw [crN, Nat.testBit_or, crN_bit S l l' i n, Bool.eq_iff_iff]
    by_cases c : sdM S l n = sdM S l' n
    · rw [if_pos c]
      simp only [Bool.or_eq_true, decide_eq_true_eq, Nat.zero_testBit, Bool.false_eq_true, or_false]
      constructor
      · intro z; exact ⟨by omega, z.2⟩
      · intro z
        refine ⟨?_, z.2⟩
        by_cases e : i = n
        · subst e; exact absurd c z.2
        · omega
    · rw [if_neg c, Nat.testBit_two_pow]
      simp only [Bool.or_eq_true, decide_eq_true_eq]
      constructor
      · rintro (z | rfl)
        · exact ⟨by omega, z.2⟩
        · exact ⟨by omega, c⟩
      · intro z
        by_cases e : n = i
        · exact Or.inr e
        · exact Or.inl ⟨by omega, z.2⟩
theorem crN_lt (S : MS) (l l' : Nat → Int32) {n : Nat} : crN S l l' n < 2 ^ n := by
  apply Nat.lt_pow_two_of_testBit
  intro i hi
  rw [crN_bit]
  exact decide_eq_false (fun z => by omega)
def cnN (S : MS) (l l' : Nat → Int32) (n : Nat) : Nat := fa_cnt (fun v => decide (¬ sdM S l v = sdM S l' v)) n
theorem crN_pop (S : MS) (l l' : Nat → Int32) {n : Nat} (hn : n ≤ 8) : pop 10 (crN S l l' n) = cnN S l l' n := by
  rw [pop_cnt, fa_cnt_stop (n := n) (by omega) (fun i h1 _ => by rw [crN_bit]; exact decide_eq_false (fun z => by omega))]
  apply fa_cnt_cong
  intro k hk
  rw [crN_bit]
  simp [hk]
theorem crN_cg {S : MS} {l l' m m' : Nat → Int32} : ∀ {n : Nat}, (∀ v, v < n → sdM S l v = sdM S m v ∧ sdM S l' v = sdM S m' v) → crN S l l' n = crN S m m' n
  | 0, _ => rfl
  | n + 1, h => by rw [crN, crN, crN_cg (fun v hv => h v (by omega)), (h n (by omega)).1, (h n (by omega)).2]
theorem cnN_cg {S : MS} {l l' m m' : Nat → Int32} {n : Nat} (h : ∀ v, v < n → sdM S l v = sdM S m v ∧ sdM S l' v = sdM S m' v) : cnN S l l' n = cnN S m m' n := fa_cnt_cong (fun v hv => by rw [(h v hv).1, (h v hv).2])
theorem xor_t {a b : Int32} (ha : a = 0 ∨ a = 1 ∨ a = 2) (hb : b = 0 ∨ b = 1 ∨ b = 2) : ((decide (a = 0) ^^ decide (b = 0)) || (decide (a = 1) ^^ decide (b = 1))) = decide (¬ a = b) := by
  rcases ha with rfl | rfl | rfl <;> rcases hb with rfl | rfl | rfl <;> decide
def chI (b a : Int32) : Int32 := ((b ^^^ a) &&& 255) ||| (((b ^^^ a) >>> ((8 : Int32) &&& 31)) &&& 255)
theorem chI_ok (S : MS) (l l' : Nat → Int32) {n : Nat} (hn : n ≤ 8) : chI (nI (sidN S l n)) (nI (sidN S l' n)) = nI (crN S l l' n) := by
  have h1 := sidN_lt S l hn
  have h2 := sidN_lt S l' hn
  have h3 := Nat.xor_lt_two_pow h1 h2
  unfold chI
  rw [nx_xor, pk_andN (by omega) 8 (by decide), sh8 (by omega), pk_andN (Nat.lt_of_le_of_lt (Nat.div_le_self _ _) (by omega)) 8 (by decide), fa_or]
  congr 1
  apply Nat.eq_of_testBit_eq
  intro i
  rw [Nat.testBit_or, Nat.testBit_mod_two_pow, Nat.testBit_mod_two_pow, Nat.testBit_div_two_pow, Nat.testBit_xor, Nat.testBit_xor, sidN_bit S l i n hn, sidN_bit S l' i n hn, sidN_bit S l _ n hn, sidN_bit S l' _ n hn, crN_bit]
  by_cases c : i < n
  · have e := xor_t (sdV_c (l (vM S i)) (vP S i)) (sdV_c (l' (vM S i)) (vP S i))
    have a1 : i < 8 := by omega
    have a2 : ¬ 8 ≤ i := by omega
    have a3 : ¬ i + 8 < n := by omega
    simp only [c, a1, a2, a3, true_and, false_and, decide_false, decide_true, Bool.or_false, Bool.false_or, Bool.true_and, Nat.le_add_left, Nat.add_sub_cancel]
    exact e
  · have a3 : ¬ i + 8 < n := by omega
    have a4 : ¬ (8 ≤ i ∧ i - 8 < n ∧ sdM S l (i - 8) = 1 ∧ i < 8) := by omega
    by_cases a1 : i < 8
    · have a2 : ¬ 8 ≤ i := by omega
      simp only [c, a1, a2, a3, true_and, false_and, decide_false, decide_true, Bool.or_false, Bool.false_or, Bool.true_and, Nat.le_add_left, Nat.add_sub_cancel, Bool.xor_self]
    · simp only [c, a1, false_and, decide_false, Bool.false_and, Bool.or_false]
/-! the sums of villages -/
theorem mk_in_N {vm : Nat → Int32} {m : Int32} : ∀ {n : Nat}, n ≤ 8 → ∃ z : Nat, z < 2 ^ n ∧ mk_in vm m n = nI z ∧ ∀ i, z.testBit i = decide (i < n ∧ vm i = m)
  | 0, _ => ⟨0, by decide, rfl, fun i => by simp⟩
  | n + 1, hn => by
    obtain ⟨z, h1, h2, h3⟩ := mk_in_N (vm := vm) (m := m) (n := n) (by omega)
    by_cases c : vm n = m
    · refine ⟨z ||| 2 ^ n, Nat.or_lt_two_pow (Nat.lt_trans h1 (Nat.pow_lt_pow_right (by decide) (by omega))) (Nat.pow_lt_pow_right (by decide) (by omega)), ?_, fun i => ?_⟩
      · rw [mk_in, if_pos c, h2, sh1 n (by omega), fa_or]
      · rw [Nat.testBit_or, h3, Nat.testBit_two_pow, Bool.eq_iff_iff]
        simp only [Bool.or_eq_true, decide_eq_true_eq]
        constructor
        · rintro (q | rfl)
          · exact ⟨by omega, q.2⟩
          · exact ⟨by omega, c⟩
        · intro q
          by_cases e : n = i
          · exact Or.inr e
          · exact Or.inl ⟨by omega, q.2⟩
    · refine ⟨z, Nat.lt_trans h1 (Nat.pow_lt_pow_right (by decide) (by omega)), by rw [mk_in, if_neg c, h2], fun i => ?_⟩
      rw [h3, Bool.eq_iff_iff]
      simp only [decide_eq_true_eq]
      constructor
      · intro q; exact ⟨by omega, q.2⟩
      · intro q
        refine ⟨?_, q.2⟩
        by_cases e : i = n
        · subst e; exact absurd q.2 c
        · omega
/-- how many villages of a mile lie so -/
def inC (S : MS) (l : Nat → Int32) (m : Nat) (sd : Int32) (n : Nat) : Nat := fa_cnt (fun v => decide (S.2.1.2.1 v = nI m ∧ sdM S l v = sd)) n
theorem inW_ok (S : MS) (l : Nat → Int32) (m : Nat) {n : Nat} (hn : n ≤ 8) : bcF ((nI (sidN S l n) &&& 255) &&& mk_in S.2.1.2.1 (nI m) n) = nI (inC S l m 0 n) := by
  obtain ⟨z, h1, h2, h3⟩ := mk_in_N (vm := S.2.1.2.1) (m := nI m) hn
  have h4 : z < 2 ^ 8 := Nat.lt_of_lt_of_le h1 (Nat.pow_le_pow_right (by decide) hn)
  have h5 := sidN_lt S l hn
  rw [pk_andN (by omega) 8 (by decide), h2, nx_and, bcF_ok _ (Nat.lt_of_le_of_lt Nat.and_le_right (by omega)), pop_cnt]
  congr 1
  rw [fa_cnt_stop (n := n) (by omega) (fun i h6 _ => by rw [Nat.testBit_and, h3, decide_eq_false (fun q => by omega), Bool.and_false])]
  apply fa_cnt_cong
  intro i hi
  have a1 : i < 8 := by omega
  have a2 : ¬ 8 ≤ i := by omega
  rw [Nat.testBit_and, Nat.testBit_mod_two_pow, sidN_bit S l i n hn, h3]
  simp [hi, a1, a2, Bool.and_comm]
theorem inE_ok (S : MS) (l : Nat → Int32) (m : Nat) {n : Nat} (hn : n ≤ 8) : bcF (((nI (sidN S l n) >>> ((8 : Int32) &&& 31)) &&& 255) &&& mk_in S.2.1.2.1 (nI m) n) = nI (inC S l m 1 n) := by
  obtain ⟨z, h1, h2, h3⟩ := mk_in_N (vm := S.2.1.2.1) (m := nI m) hn
  have h4 : z < 2 ^ 8 := Nat.lt_of_lt_of_le h1 (Nat.pow_le_pow_right (by decide) hn)
  have h5 := sidN_lt S l hn
  rw [sh8 (by omega), pk_andN (Nat.lt_of_le_of_lt (Nat.div_le_self _ _) (by omega)) 8 (by decide), h2, nx_and, bcF_ok _ (Nat.lt_of_le_of_lt Nat.and_le_right (by omega)), pop_cnt]
  congr 1
  rw [fa_cnt_stop (n := n) (by omega) (fun i h6 _ => by rw [Nat.testBit_and, h3, decide_eq_false (fun q => by omega), Bool.and_false])]
  apply fa_cnt_cong
  intro i hi
  have a1 : i < 8 := by omega
  have a3 : ¬ i + 8 < n := by omega
  rw [Nat.testBit_and, Nat.testBit_mod_two_pow, Nat.testBit_div_two_pow, sidN_bit S l (i + 8) n hn, h3]
  simp [hi, a1, a3, Bool.and_comm]
