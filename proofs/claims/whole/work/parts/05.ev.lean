/-! What is known of the tables; the judgements. -/
def jx_prims : List (Nat × FieldType) := [(1, .int), (2, .long), (3, .byte), (4, .boolean)]
def jx_rcs : List Nat := [4, 5, 7]
def jg_A (G : jx_G) : Nat → Prop := fun q => jg_b G ≤ q
/-- the String constants: their facts (place e: the class's number, the entry, the text, its bytes) -/
def jx_str1 (G : jx_G) (U : State) (q : Nat × Nat × Nat × String × List Int32) : Prop :=
  vk_R (jn_R q.2.1) q.2.2.1 q.2.2.2.1 (jg_x G q.1) U ∧ va_O "java/lang/String" (jg_x G q.1) (jg_A G) U (jg_H G) ∧ va_OF "java/lang/String" "coder" "B" (.int 0) (jg_x G q.1) (jg_A G) U (jg_H G) ∧ va_OF "java/lang/String" "value" "[B" (.ref (jg_x G (500 + q.1))) (jg_x G q.1) (jg_A G) U (jg_H G) ∧ va_T .byte (jg_x G (500 + q.1)) q.2.2.2.2.length (fun j => .int (q.2.2.2.2.getD j 0)) (jg_A G) U (jg_H G)
def jx_strs : List (Nat × Nat × Nat × String × List Int32) := [(0, 2, 87, "strip", [115, 116, 114, 105, 112]), (1, 2, 88, "mile", [109, 105, 108, 101]), (2, 2, 90, "warm", [119, 97, 114, 109]), (3, 2, 92, "baked", [98, 97, 107, 101, 100]), (4, 2, 94, "village", [118, 105, 108, 108, 97, 103, 101]), (5, 2, 96, "want", [119, 97, 110, 116]), (6, 6, 32, "creep", [99, 114, 101, 101, 112]), (7, 6, 51, "if", [105, 102]), (8, 6, 70, "and", [97, 110, 100]), (9, 6, 72, "or", [111, 114]), (10, 6, 77, "not", [110, 111, 116]), (11, 6, 112, "mile", [109, 105, 108, 101]), (12, 6, 114, "line", [108, 105, 110, 101]), (13, 6, 116, "dough", [100, 111, 117, 103, 104]), (14, 6, 118, "salt", [115, 97, 108, 116]), (15, 6, 120, "damp", [100, 97, 109, 112]), (16, 6, 122, "warm", [119, 97, 114, 109]), (17, 6, 124, "night", [110, 105, 103, 104, 116]), (18, 6, 126, "above", [97, 98, 111, 118, 101]), (19, 6, 128, "below", [98, 101, 108, 111, 119]), (20, 6, 130, "west", [119, 101, 115, 116]), (21, 6, 132, "east", [101, 97, 115, 116]), (22, 6, 134, "crust", [99, 114, 117, 115, 116]), (23, 12, 192, "mile", [109, 105, 108, 101]), (24, 12, 194, "line", [108, 105, 110, 101]), (25, 12, 195, "dough", [100, 111, 117, 103, 104]), (26, 12, 196, "salt", [115, 97, 108, 116]), (27, 12, 198, "damp", [100, 97, 109, 112]), (28, 12, 200, "warm", [119, 97, 114, 109]), (29, 12, 202, "night", [110, 105, 103, 104, 116]), (30, 12, 204, "above", [97, 98, 111, 118, 101]), (31, 12, 206, "below", [98, 101, 108, 111, 119]), (32, 12, 208, "west", [119, 101, 115, 116]), (33, 12, 210, "east", [101, 97, 115, 116]), (34, 12, 212, "crust", [99, 114, 117, 115, 116]), (35, 12, 294, "not", [110, 111, 116]), (36, 12, 308, "and", [97, 110, 100]), (37, 12, 310, "or", [111, 114]), (38, 12, 312, "strip", [115, 116, 114, 105, 112]), (39, 12, 314, "baked", [98, 97, 107, 101, 100]), (40, 12, 316, "village", [118, 105, 108, 108, 97, 103, 101]), (41, 12, 318, "want", [119, 97, 110, 116]), (42, 12, 364, "creep", [99, 114, 101, 101, 112]), (43, 12, 366, "if", [105, 102])]
def jx_KK (G : jx_G) (U : State) : Prop :=
  va_K (jg_D G) jn_cl [] U ∧ (∀ q ∈ jx_prims, ArrOfT U (jg_a G q.1) q.2 ∧ U.vm.findClass ("[" ++ q.2.toString) = some (jg_a G q.1)) ∧
  (∀ c ∈ jx_rcs, ArrOfT U (jg_a G (40 + c)) (.object (jn_R c)) ∧ va_RA U (jg_a G (40 + c)) (.object (jn_R c)) ∧ va_AO (jn_R c) U) ∧
  (∀ w ∈ jx_nest, va_Nw w U) ∧ (∀ scr : Cell, (jg_H G)[jg_s G]? = some scr → U.isArrayOf scr .int) ∧
  (∀ q ∈ jx_strs, jx_str1 G U q) ∧ va_Z "java/lang/String" "COMPACT_STRINGS" "Z" (.int 1) (jg_A G) U (jg_H G) ∧
  (va_Z "jdk/internal/util/Preconditions" "SIOOBE_FORMATTER" "Ljava/util/function/BiFunction;" .null (jg_A G) U (jg_H G) ∨ va_Z "jdk/internal/util/Preconditions" "SIOOBE_FORMATTER" "Ljava/util/function/BiFunction;" (.ref (jg_x G 999)) (jg_A G) U (jg_H G))
theorem jx_nest_ok : ∀ w ∈ jx_nest, ∃ a i x h, w = .methodLinkNest a i x h := by
  intro w hw
  simp only [jx_nest, List.mem_cons, List.not_mem_nil, or_false] at hw
  rcases hw with h | h | h | h | h | h | h | h | h | h | h | h | h | h | h | h | h | h | h | h | h | h <;> exact ⟨_, _, _, _, h⟩
theorem jx_KK.warm {G : jx_G} {s U : State} (hW : s.WarmedH U.vm) (h : jx_KK G s) : jx_KK G U := by
  obtain ⟨k1, k2, k3, k4, k5, k6, k7, k8⟩ := h
  have ha := hW.alike
  refine ⟨va_K.moved ha k1, fun q hq => ⟨arrOfT_moved ha (k2 q hq).1, by rw [ha.findClass]; exact (k2 q hq).2⟩, fun c hc => ⟨arrOfT_moved ha (k3 c hc).1, (k3 c hc).2.1.moved ha, va_AO.moved ha (k3 c hc).2.2⟩, fun w hw => ?_, fun scr hs => State.isArrayOf_alike ha (k5 scr hs), fun q hq => ?_, va_Z.moved ha k7, k8.elim (fun z => Or.inl (va_Z.moved ha z)) (fun z => Or.inr (va_Z.moved ha z))⟩
  · obtain ⟨a, i, x, hh, rfl⟩ := jx_nest_ok w hw
    exact va_Nw.warmM hW (k4 _ hw)
  · obtain ⟨h1, h2, h3, h4, h5⟩ := k6 q hq
    exact ⟨vk_R.warm hW h1, va_O.moved ha h2, va_OF.moved ha h3, va_OF.moved ha h4, va_T.moved ha h5⟩
theorem jx_KK.same {G : jx_G} {s U : State} (hv : U.vm = s.vm) (h : jx_KK G s) : jx_KK G U := h.warm (by rw [hv]; exact State.WarmedH.refl s)
/-- the locals, by places -/
def jx_as (G : jx_G) (lv : List (Option Value)) (k : Nat) : List (Nat × Value) := match lv with
  | [] => []
  | none :: r => jx_as G r (k + 1)
  | some v :: r => (k, jx_cv G v) :: jx_as G r (k + 1)
theorem jx_as_mem {G : jx_G} : ∀ {lv : List (Option Value)} {k : Nat} {q : Nat × Value}, q ∈ jx_as G lv k ↔ ∃ (j : Nat) (v : Value), lv[j]? = some (some v) ∧ q = (k + j, jx_cv G v)
  | [], k, q => by simp [jx_as]
  | none :: r, k, q => by
    rw [jx_as, jx_as_mem]
    constructor
    · rintro ⟨j, v, h, e⟩
      exact ⟨j + 1, v, by simpa using h, by rw [e]; congr 1; omega⟩
    · rintro ⟨j, v, h, e⟩
      match j, h with
      | 0, h => simp at h
      | j + 1, h => exact ⟨j, v, by simpa using h, by rw [e]; congr 1; omega⟩
  | some w :: r, k, q => by
    rw [jx_as, List.mem_cons, jx_as_mem]
    constructor
    · rintro (e | ⟨j, v, h, e⟩)
      · exact ⟨0, w, by simp, by rw [e]; rfl⟩
      · exact ⟨j + 1, v, by simpa using h, by rw [e]; congr 1; omega⟩
    · rintro ⟨j, v, h, e⟩
      match j, h with
      | 0, h => simp at h; subst h; exact Or.inl e
      | j + 1, h => exact Or.inr ⟨j, v, by simpa using h, by rw [e]; congr 1; omega⟩
def jx_lv (G : jx_G) (ls : Array Slot) (n : Nat) (lv : List (Option Value)) : Prop := lv.length = n ∧ lv_has ls n (jx_as G lv 0)
theorem jx_lv.at {G : jx_G} {ls : Array Slot} {n : Nat} {lv : List (Option Value)} (h : jx_lv G ls n lv) {k : Nat} {v : Value} (hk : lv[k]? = some (some v)) : ls[k]? = some (.val (jx_cv G v)) :=
  h.2.2.2 (k, jx_cv G v) (jx_as_mem.mpr ⟨k, v, hk, by rw [Nat.zero_add]⟩)
def jx_cut (lv : List (Option Value)) (i : Nat) : List (Option Value) := match i with
  | 0 => lv
  | j + 1 => match lv[j]? with
    | some (some (.long _)) => lv.set j none
    | some (some (.double _)) => lv.set j none
    | _ => lv
def jx_set (lv : List (Option Value)) (i : Nat) (v : Value) : List (Option Value) := (jx_cut lv i).set i (some v)
def jx_set2 (lv : List (Option Value)) (i : Nat) (v : Value) : List (Option Value) := ((jx_cut lv i).set i (some v)).set (i + 1) none
theorem jx_cut_len (lv : List (Option Value)) (i : Nat) : (jx_cut lv i).length = lv.length := by
  unfold jx_cut
  split
  · rfl
  · split <;> simp
theorem jx_cut_get {lv : List (Option Value)} {i j : Nat} {v : Value} (h : (jx_cut lv i)[j]? = some (some v)) : lv[j]? = some (some v) ∧ ¬ (j + 1 = i ∧ v.category = 2) := by
  unfold jx_cut at h
  split at h
  · exact ⟨h, by omega⟩
  · rename_i n
    split at h
    · rw [List.getElem?_set] at h
      split at h
      · split at h <;> simp at h
      · exact ⟨h, by omega⟩
    · rw [List.getElem?_set] at h
      split at h
      · split at h <;> simp at h
      · exact ⟨h, by omega⟩
    · rename_i h1 h2
      refine ⟨h, fun ⟨e, hc⟩ => ?_⟩
      have e' : j = n := by omega
      subst e'
      cases v <;> first | exact h1 _ h | exact h2 _ h | (simp [Value.category] at hc)
theorem jx_set_ok {G : jx_G} {lv : List (Option Value)} {i : Nat} {v : Value} {q : Nat × Value} (hq : q ∈ jx_as G (jx_set lv i v) 0) : q ∈ (i, jx_cv G v) :: (jx_as G lv 0).filter (fun q => !(q.1 == i) && !(q.1 + 1 == i && q.2.category == 2)) := by
  obtain ⟨j, w, h, rfl⟩ := jx_as_mem.mp hq
  rw [Nat.zero_add]
  unfold jx_set at h
  rw [List.getElem?_set] at h
  by_cases e : i = j
  · subst e
    rw [if_pos rfl] at h
    split at h
    · cases h; exact List.mem_cons_self
    · cases h
  · rw [if_neg e] at h
    obtain ⟨h1, h2⟩ := jx_cut_get h
    refine List.mem_cons_of_mem _ (List.mem_filter.mpr ⟨jx_as_mem.mpr ⟨j, w, h1, by rw [Nat.zero_add]⟩, ?_⟩)
    have e1 : (j == i) = false := by simpa using fun q => e q.symm
    simp only [e1, jx_cv_cat, Bool.not_false, Bool.true_and]
    by_cases e2 : j + 1 = i
    · have : ¬ w.category = 2 := fun q => h2 ⟨e2, q⟩
      simp [this]
    · simp [e2]
theorem jx_set2_ok {G : jx_G} {lv : List (Option Value)} {i : Nat} {v : Value} {q : Nat × Value} (hq : q ∈ jx_as G (jx_set2 lv i v) 0) : q ∈ (i, jx_cv G v) :: (jx_as G lv 0).filter (fun q => !(q.1 == i) && (!(q.1 == i + 1) && !(q.1 + 1 == i && q.2.category == 2))) := by
  obtain ⟨j, w, h, rfl⟩ := jx_as_mem.mp hq
  rw [Nat.zero_add]
  unfold jx_set2 at h
  rw [List.getElem?_set] at h
  by_cases e0 : i + 1 = j
  · rw [if_pos e0] at h
    split at h <;> cases h
  · rw [if_neg e0, List.getElem?_set] at h
    by_cases e : i = j
    · subst e
      rw [if_pos rfl] at h
      split at h
      · cases h; exact List.mem_cons_self
      · cases h
    · rw [if_neg e] at h
      obtain ⟨h1, h2⟩ := jx_cut_get h
      refine List.mem_cons_of_mem _ (List.mem_filter.mpr ⟨jx_as_mem.mpr ⟨j, w, h1, by rw [Nat.zero_add]⟩, ?_⟩)
      have e1 : (j == i) = false := by simpa using fun q => e q.symm
      have e3 : (j == i + 1) = false := by simpa using fun q => e0 q.symm
      simp only [e1, e3, jx_cv_cat, Bool.not_false, Bool.true_and]
      by_cases e2 : j + 1 = i
      · have : ¬ w.category = 2 := fun q => h2 ⟨e2, q⟩
        simp [this]
      · simp [e2]
theorem jx_lv.set {G : jx_G} {ls ls' : Array Slot} {n : Nat} {lv : List (Option Value)} {i : Nat} {v : Value} (h0 : jx_lv G ls n lv) (h : lv_has ls' n ((i, jx_cv G v) :: (jx_as G lv 0).filter (fun q => !(q.1 == i) && !(q.1 + 1 == i && q.2.category == 2)))) : jx_lv G ls' n (jx_set lv i v) :=
  ⟨by simp [jx_set, jx_cut_len, h0.1], h.1, h.2.1, fun q hq => h.2.2 q (jx_set_ok hq)⟩
theorem jx_lv.set2 {G : jx_G} {ls ls' : Array Slot} {n : Nat} {lv : List (Option Value)} {i : Nat} {v : Value} (h0 : jx_lv G ls n lv) (h : lv_has ls' n ((i, jx_cv G v) :: (jx_as G lv 0).filter (fun q => !(q.1 == i) && (!(q.1 == i + 1) && !(q.1 + 1 == i && q.2.category == 2))))) : jx_lv G ls' n (jx_set2 lv i v) :=
  ⟨by simp [jx_set2, jx_cut_len, h0.1], h.1, h.2.1, fun q hq => h.2.2 q (jx_set2_ok hq)⟩
/-- what stands fast in a method's body -/
def jx_Fx (G : jx_G) (i d : Nat) (p : Program) (R : Room) (s : State) (m : MethodId) (args : Array Value) (meth : Method) (c : Code) : Prop :=
  (p.tables.exec = Jvm.exec ∧ c.code = jm_b i ∧ c.maxLocals = jm_L i) ∧ (s.vm.findClass (jn_R (jm_o i)) = some m.cls ∧ (∀ w ∈ jx_T, w.before args s = true) ∧ jx_KK G s) ∧ (d ≤ R.frames ∧ 40 * d ≤ R.locals) ∧ ((jm_y i).name = "<init>" → meth.name = "<init>")
/-- what may be handed back at pc -/
def jx_rok (i pc : Nat) : Option Value → Prop
  | none => decode (jm_b i) pc = .ok (.return_, 1) ∧ jm_r i = none
  | some (.int v) => decode (jm_b i) pc = .ok (.ireturn, 1) ∧ ∃ ty, jm_r i = some ty ∧ narrow ty (.int v) = .int v
  | some (.long _) => decode (jm_b i) pc = .ok (.lreturn, 1) ∧ jm_r i = some .long
  | some (.ref _) => decode (jm_b i) pc = .ok (.areturn, 1) ∧ ∃ n, jm_r i = some (.object n)
  | _ => False
def jx_Ret (G : jx_G) (i : Nat) (p : Program) (l : Launch) (e : Env) (R : Room) (s : State) (m : MethodId) (args : Array Value) (below : List Frame) (meth : Method) (c : Code) (Z : State → Prop) (Q : Option Value → jx_H → Prop) : Prop :=
  ∀ (r : Option Value) (h' : jx_H) (H' : Heap) (locs' : List Loc) (pc : Nat) (ls : Array Slot), Q r h' → jx_Rel G h' H' → (∀ q ∈ locs', jg_b G ≤ q.base) → jx_rok i pc r → W p l e R s m args below meth c H' locs' R.cells R.slots Z (F0 m pc ls (r.toList.map (jx_cv G)))
/-- from pc on, with locals lv, stack st, heap h, at most d frames, bc cells, bs slots: the method comes to an end with Q -/
def jx_Ev (d bc bs i pc : Nat) (lv : List (Option Value)) (st : List Value) (h : jx_H) (Q : Option Value → jx_H → Prop) : Prop :=
  ∀ (p : Program) (l : Launch) (e : Env) (R : Room) (s : State) (m : MethodId) (args : Array Value) (below : List Frame) (meth : Method) (c : Code) (G : jx_G) (H : Heap) (locs : List Loc) (cells slots : Nat) (ls : Array Slot) (Z : State → Prop),
    jx_Fx G i d p R s m args meth c → jx_Rel G h H → jx_lv G ls (jm_L i) lv → (∀ q ∈ locs, jg_b G ≤ q.base) → cells + bc ≤ R.cells ∧ slots + bs ≤ R.slots → jx_Ret G i p l e R s m args below meth c Z Q →
    W p l e R s m args below meth c H locs cells slots Z (F0 m pc ls (st.map (jx_cv G)))
def jx_ws (i : Nat) : List Cond := Cond.code (jm_y i) (jm_b i) (jm_L i) (jm_r i) :: jx_T
def jx_rm (d bc bs : Nat) : Room := { frames := d, cells := bc, slots := bs, locals := 40 * d }
def jx_Pc (G : jx_G) (as : List Value) (h : jx_H) : Array Value → State → Prop := fun v U => v = (as.map (jx_cv G)).toArray ∧ jx_Rel G h U.heap ∧ jx_KK G U
def jx_Qc (G : jx_G) (Q : Option Value → jx_H → Prop) : Array Value → State → Outcome → State → Prop := fun _ _ o t => ∃ (r : Option Value) (h' : jx_H), o = .returned (r.map (jx_cv G)) ∧ Q r h' ∧ jx_Rel G h' t.heap
/-- a method's contract -/
def jx_Tr (d bc bs i : Nat) (as : List Value) (h : jx_H) (Q : Option Value → jx_H → Prop) : Prop :=
  ∀ (l : Launch) (G : jx_G), Met l (jm_y i) (jx_ws i) (jx_rm d bc bs) (jx_Pc G as h) (jx_Qc G Q) bc bs (fun q => jg_b G ≤ q)
