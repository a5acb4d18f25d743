/-! weigh -/
def ixF (F : Nat → Bool) : Nat → Nat → Nat
  | 0, _ => 0
  | t + 1, k => if F t = true ∧ fa_cnt F t = k then t else ixF F t k
theorem ixF_ok {F : Nat → Bool} {k : Nat} : ∀ {t : Nat}, k < fa_cnt F t → ixF F t k < t ∧ F (ixF F t k) = true ∧ fa_cnt F (ixF F t k) = k
  | 0, h => absurd h (Nat.not_lt_zero k)
  | t + 1, h => by
    rw [ixF]
    by_cases c : F t = true ∧ fa_cnt F t = k
    · rw [if_pos c]; exact ⟨by omega, c.1, c.2⟩
    · rw [if_neg c]
      have h2 : k < fa_cnt F t := by
        cases e : F t
        · rw [fa_cnt_no e] at h; exact h
        · rw [fa_cnt_yes e] at h
          have : ¬ fa_cnt F t = k := fun z => c ⟨e, z⟩
          omega
      obtain ⟨a, b, d⟩ := ixF_ok h2
      exact ⟨by omega, b, d⟩
def dvN (S : MS) (z : Int32) (n m i : Nat) : Nat := (dbI S z (i / 30) (i % 30) m n).toNatClampNeg
theorem aftI_bd {S : MS} (wS : wfS S) {e : Int32} {b : Nat} (h : bdI e 0 99) : ∀ k, bdI (aftI S e b k) 0 99
  | 0 => h
  | k + 1 => riI_bd wS (aftI_bd wS h k) _
theorem dbI_bd {S : MS} (wS : wfS S) {z : Int32} (hz : ¬ z < 1) {a b m n : Nat} (hm : m < 10) (hp : posP S z a b) : bdI (dbI S z a b m n) 0 99 := by
  unfold dbI
  split
  · exact untI_bd wS hm n
  · rename_i c
    refine aftI_bd wS ?_ _
    have e : m = a := by omega
    subst e
    have u := untI_bd wS hm b
    have h1 := hp.2
    rw [fa_lt] at h1 hz
    rw [show (1 : Int32).toInt = 1 from rfl] at hz
    have := u.1
    have := u.2
    unfold bdI
    rw [tI_sub (by omega) (by omega) (by omega) (by omega)]
    omega
theorem bd_nI {x : Int32} (h : bdI x 0 99) : x.toNatClampNeg ≤ 99 ∧ x = nI x.toNatClampNeg := by
  obtain ⟨j, hj, rfl⟩ := nI_of (x := x) (by rw [fa_lt, Int32.toInt_zero]; have := h.1; omega)
  have := h.2
  rw [nI_toInt hj] at this
  rw [nI_clamp hj]
  exact ⟨by omega, rfl⟩
theorem ftB_pos {S : MS} {z : Int32} {ln lm ld : Nat → Int32} {lg i : Nat} (h : ftB S z ln lm ld lg i = true) : posP S z (i / 30) (i % 30) := by
  unfold ftB at h
  rw [Bool.and_eq_true, decide_eq_true_eq] at h
  exact h.1
theorem dv_ok {S : MS} (wS : wfS S) {z : Int32} (hz : ¬ z < 1) {ln lm ld : Nat → Int32} {lg i m n : Nat} (hm : m < 10) (h : ftB S z ln lm ld lg i = true) : dvN S z n m i ≤ 99 ∧ dbI S z (i / 30) (i % 30) m n = nI (dvN S z n m i) := bd_nI (dbI_bd wS hz hm (ftB_pos h))
def alN (F : Nat → Bool) (v : Nat → Nat) (t e : Nat) : Nat := fa_cnt (fun i => F i && decide (v i = e)) t
def clN (F : Nat → Bool) (v : Nat → Nat) (T k e : Nat) : Nat := fa_cnt (fun j => decide (v (ixF F T j) = e)) k
theorem cl_al {F : Nat → Bool} {v : Nat → Nat} {T e : Nat} : ∀ {t : Nat}, t ≤ T → clN F v T (fa_cnt F t) e = alN F v t e
  | 0, _ => rfl
  | t + 1, h => by
    have ih := cl_al (F := F) (v := v) (T := T) (e := e) (t := t) (by omega)
    cases c : F t
    · rw [fa_cnt_no c, ih]
      exact (fa_cnt_no (p := fun i => F i && decide (v i = e)) (by rw [c]; rfl)).symm
    · rw [fa_cnt_yes c]
      have h1 : fa_cnt F t < fa_cnt F T := fa_cnt_inj (by omega) c
      obtain ⟨a, b, d⟩ := ixF_ok h1
      have ei : ixF F T (fa_cnt F t) = t := fa_uniq b c d
      unfold clN alN at ih ⊢
      rw [fa_cnt, fa_cnt, ih, ei, c, Bool.true_and]
theorem alN_le (F : Nat → Bool) (v : Nat → Nat) (e : Nat) : ∀ t, alN F v t e ≤ fa_cnt F t
  | 0 => Nat.le_refl _
  | t + 1 => by
    have := alN_le F v e t
    unfold alN at this ⊢
    rw [fa_cnt, fa_cnt]
    cases F t
    · simp only [Bool.false_and]; exact this
    · simp only [Bool.true_and, if_true]; split <;> omega
def mxD (al : Nat → Nat) : Nat → Nat
  | 0 => 0
  | e + 1 => if mxD al e < al e then al e else mxD al e
def MXR (al : Nat → Nat) (N M : Nat) : Prop := (∀ e, e < N → al e ≤ M) ∧ (M = 0 ∨ ∃ e, e < N ∧ al e = M)
theorem mxD_ok (al : Nat → Nat) : ∀ N, MXR al N (mxD al N)
  | 0 => ⟨fun e h => absurd h (Nat.not_lt_zero e), Or.inl rfl⟩
  | N + 1 => by
    obtain ⟨h1, h2⟩ := mxD_ok al N
    rw [mxD]
    by_cases c : mxD al N < al N
    · rw [if_pos c]
      refine ⟨fun e he => ?_, Or.inr ⟨N, by omega, rfl⟩⟩
      by_cases q : e = N
      · rw [q]; exact Nat.le_refl _
      · have := h1 e (by omega); omega
    · rw [if_neg c]
      refine ⟨fun e he => ?_, h2.imp id (fun ⟨e, a, b⟩ => ⟨e, by omega, b⟩)⟩
      by_cases q : e = N
      · rw [q]; omega
      · exact h1 e (by omega)
theorem MXR.u {al : Nat → Nat} {N M M' : Nat} (a : MXR al N M) (b : MXR al N M') : M = M' := by
  have h1 : M ≤ M' := by
    rcases a.2 with z | ⟨e, he, ee⟩
    · omega
    · have := b.1 e he; omega
  have h2 : M' ≤ M := by
    rcases b.2 with z | ⟨e, he, ee⟩
    · omega
    · have := a.1 e he; omega
  omega
theorem MXR.go {al al' : Nat → Nat} {N M x : Nat} (a : MXR al N M) (hx : x < N) (h1 : al' x = al x + 1) (h2 : ∀ e, e ≠ x → al' e = al e) : MXR al' N (if M < al x + 1 then al x + 1 else M) := by
  by_cases c : M < al x + 1
  · rw [if_pos c]
    refine ⟨fun e he => ?_, Or.inr ⟨x, hx, h1⟩⟩
    by_cases q : e = x
    · rw [q, h1]; exact Nat.le_refl _
    · rw [h2 e q]; have := a.1 e he; omega
  · rw [if_neg c]
    refine ⟨fun e he => ?_, a.2.imp id (fun ⟨e, he, ee⟩ => ⟨e, he, ?_⟩)⟩
    · by_cases q : e = x
      · rw [q, h1]; omega
      · rw [h2 e q]; exact a.1 e he
    · rw [h2 e (fun q => by rw [q] at ee; omega)]; exact ee
def amF (mm : Nat → Nat) : Nat → Nat
  | 0 => 0
  | m + 1 => if m = 0 then 0 else if mm m < mm (amF mm m) then m else amF mm m
set_option maxHeartbeats 2000000 in
theorem t_Arr_fill (d : Nat) {bc bs : Nat} {h : jx_H} {a n : Nat} {v : Int32} (Ba : h.1[a]? = some (.inl (1, n))) (hn : n < 100000) : jx_Tr (d + 1) bc bs 16000 [.ref a, .int v] h (fun r h' => r = none ∧ fC (fun b => b = a) h h' ∧ ∀ j, j < n → h'.2.1 a j = v) := by
  refine jx_tr jM_Arr_fill rfl rfl (lv := [some (.ref a), some (.int v), none, none]) rfl ?_
  refine je_iconst (pc := 0) (v := 0) d16000_0 rfl ?_
  refine ju_istore2 (pc := 1) (lv' := [some _, some _, some _, none]) d16000_1 rfl rfl ?_
  refine je_aload0 (pc := 2) d16000_2 rfl ?_
  refine je_alen (pc := 3) d16000_3 Ba (by decide) ?_
  refine ju_istore3 (pc := 4) (lv' := [some _, some _, some _, some _]) d16000_4 rfl rfl ?_
  refine je_loop (σ := Unit) (n) (fun k xx => [some (.ref a), some (.int v), some (.int (nI k)), some (.int (nI n))]) (fun k _ h' => fC (fun b => b = a) h h' ∧ ∀ j, j < k → h'.2.1 a j = v) (fun k xx h' hk e kk => ?_) (fun xx h' e => ?_) (0) () h (by omega) ⟨fC.rf, fun j hj => absurd hj (Nat.not_lt_zero j)⟩
  · obtain ⟨e1, e2⟩ := e
    have Ba1 : h'.1[a]? = some (.inl (1, n)) := by rw [e1.1.1]; exact Ba
    refine je_iload2 (pc := 5) d16000_5 rfl ?_
    refine je_iload3 (pc := 6) d16000_6 rfl ?_
    refine jn_icge (pc := 7) (a := (k)) (b := (n)) 20 d16000_7 (by decide) (by omega) (by omega) (fun c7 => by exfalso; omega) (fun c7 => ?_)
    refine je_aload0 (pc := 10) d16000_10 rfl ?_
    refine je_iload2 (pc := 11) d16000_11 rfl ?_
    refine je_iload1 (pc := 12) d16000_12 rfl ?_
    refine ju_iast (pc := 13) (jn := (k)) d16000_13 Ba1 (vp_in_nI (by omega) (by omega)) (nI_clamp (by omega)) ?_
    refine ju_incN (pc := 14) (v := nI ((k) + 1)) (lv' := [some _, some _, some _, some _]) d16000_14 rfl (nI_1 (k)) rfl ?_
    refine je_goto (pc := 17) 5 d16000_17 (by decide) ?_
    refine kk () _ ⟨e1.wI rfl, fun j hj => ?_⟩
    rw [wI_at]
    by_cases c : j = k
    · subst c; rw [jx_up_self]
    · rw [jx_up_ne _ _ c]; exact e2 j (by omega)
  · obtain ⟨e1, e2⟩ := e
    have Ba1 : h'.1[a]? = some (.inl (1, n)) := by rw [e1.1.1]; exact Ba
    refine je_iload2 (pc := 5) d16000_5 rfl ?_
    refine je_iload3 (pc := 6) d16000_6 rfl ?_
    refine jn_icge (pc := 7) (a := ((n))) (b := (n)) 20 d16000_7 (by decide) (by omega) (by omega) (fun c7 => ?_) (fun c7 => by exfalso; omega)
    refine je_ret (pc := 20) d16000_20 rfl ?_
    exact ⟨rfl, e1, e2⟩
theorem hold_in {x : Nat} (h : x ≤ 99) : mhold (nI x) 0 99 = nI x := by
  unfold mhold
  rw [if_neg (nI_pos (by omega)), if_neg (show ¬ (99 : Int32) < nI x from nI_nlt (a := 99) (b := x) h (by decide))]
theorem mx_nI {a b : Nat} (ha : a < 2 ^ 31) (hb : b < 2 ^ 31) : (if nI a < nI b then nI b else nI a) = nI (if a < b then b else a) := by
  by_cases c : a < b
  · rw [if_pos c, if_pos (nI_lt c hb)]
  · rw [if_neg c, if_neg (nI_nlt (by omega) ha)]
set_option maxHeartbeats 4000000 in
theorem t_Th_mostAlikeBy (d : Nat) {bc bs : Nat} {h : jx_H} {s : Nat} {S : MS} (H : jx_St h) (hs : h.2.2.2 107 4 = some s) (P : jx_Sp h s) (hS : rS h.2.1 s S) (hU : ∀ m, m < S.1.1 → ∀ n, n < 31 → h.2.1 108 (m * 31 + n) = untI S m n) (hmi : S.1.1 ≤ 10) {z : Int32} (hz : h.2.1 107 5 = z) {lg : Nat} {ln lm ld : Nat → Int32} (hf : fnd h (ftB S z ln lm ld lg) (30 * S.1.1)) (wS : wfS S) (hz1 : ¬ z < 1) (hsA : sA s) {m n : Nat} (hm : m < S.1.1) (hn : n < 31) : jx_Tr (d + 4) bc bs 11008 [.ref 107, .int (nI m), .int (nI n)] h (fun r h' => r = some (.int (nI (mxD (alN (ftB S z ln lm ld lg) (dvN S z n m) (30 * S.1.1)) 100))) ∧ fC (fun b => b = 111) h h') := by
  refine jx_tr jM_Th_mostAlikeBy rfl rfl (lv := [some (.ref 107), some (.int (nI m)), some (.int (nI n)), none, none, none]) rfl ?_
  have cl := fa_cnt_le (ftB S z ln lm ld lg) (30 * S.1.1)
  refine je_aload0 (pc := 0) d11008_0 rfl ?_
  refine ju_getr (pc := 1) (b := 111) d11008_1 jF_11_21 rfl (sK107 H) (sR107_3 H) ?_
  refine je_iconst (pc := 4) (v := 0) d11008_4 rfl ?_
  refine ju_calls (pc := 5) (as := [_, _]) d11008_5 jL_11_105 jM_Arr_fill rfl rfl (by exact Nat.le_of_ble_eq_true rfl) (t_Arr_fill (d + 2) (a := 111) (n := 100) (v := 0) (sK111 H) (by decide)) (fun r5 h5 q5 => ?_)
  obtain ⟨rfl, f1, f2⟩ := q5
  have H0 := f1.St H
  refine je_iconst (pc := 8) (v := 0) d11008_8 rfl ?_
  refine ju_istore3 (pc := 9) (lv' := [some _, some _, some _, some _, none, none]) d11008_9 rfl rfl ?_
  refine je_iconst (pc := 10) (v := 0) d11008_10 rfl ?_
  refine ju_istore (pc := 11) (lv' := [some _, some _, some _, some _, some _, none]) d11008_11 rfl rfl ?_
  refine je_loop (σ := Nat × Option Value) (fa_cnt (ftB S z ln lm ld lg) (30 * S.1.1)) (fun k xx => [some (.ref 107), some (.int (nI m)), some (.int (nI n)), some (.int (nI xx.1)), some (.int (nI k)), xx.2]) (fun k xx h' => fC (fun b => b = 111) h h' ∧ (∀ e, e < 100 → h'.2.1 111 e = nI (clN (ftB S z ln lm ld lg) (dvN S z n m) (30 * S.1.1) k e)) ∧ MXR (clN (ftB S z ln lm ld lg) (dvN S z n m) (30 * S.1.1) k) 100 xx.1 ∧ xx.1 ≤ k) (fun k xx h' hk e kk => ?_) (fun xx h' e => ?_) (0) (0, none) h5 (by omega) ⟨f1, f2, ⟨fun e _ => Nat.le_refl _, Or.inl rfl⟩, Nat.le_refl _⟩
  · obtain ⟨e1, e2, e3, e4⟩ := e
    have H1 := e1.St H
    have P1 := e1.Sp P
    have hs1 := e1.rr hs
    have hS1 : rS h'.2.1 s S := hS.of (fun b h1 h2 => e1.2 b (fun z => by unfold sA at hsA; omega))
    have cf : h'.2.1 107 6 = nI (fa_cnt (ftB S z ln lm ld lg) (30 * S.1.1)) := by rw [e1.2 107 (by omega)]; exact hf.1
    obtain ⟨i1, i2, i3⟩ := ixF_ok hk
    have i4 := hf.2 (ixF (ftB S z ln lm ld lg) (30 * S.1.1) k) i1 i2
    rw [i3] at i4
    obtain ⟨v1, v2⟩ := dv_ok wS hz1 (n := n) (m := m) (by omega) i2
    have ck := fa_cnt_le (fun j => decide ((dvN S z n m) (ixF (ftB S z ln lm ld lg) (30 * S.1.1) j) = dvN S z n m (ixF (ftB S z ln lm ld lg) (30 * S.1.1) k))) k
    refine je_iload (pc := 13) d11008_13 rfl ?_
    refine je_aload0 (pc := 15) d11008_15 rfl ?_
    refine ju_geti (pc := 16) d11008_16 jF_11_38 rfl (sK107 H1) ?_
    refine ju_eqi (v := nI (fa_cnt (ftB S z ln lm ld lg) (30 * S.1.1))) cf ?_
    refine jn_icge (pc := 19) (a := (k)) (b := (fa_cnt (ftB S z ln lm ld lg) (30 * S.1.1))) 79 d11008_19 (by decide) (by omega) (by omega) (fun c19 => by exfalso; omega) (fun c19 => ?_)
    refine je_aload0 (pc := 22) d11008_22 rfl ?_
    refine je_aload0 (pc := 23) d11008_23 rfl ?_
    refine ju_getr (pc := 24) (b := 109) d11008_24 jF_11_15 rfl (sK107 H1) (sR107_1 H1) ?_
    refine je_iload (pc := 27) d11008_27 rfl ?_
    refine ju_iald (pc := 29) (jn := (k)) d11008_29 (sK109 H1) (vp_in_nI (by omega) (by decide)) (nI_clamp (by omega)) ?_
    refine ju_eqi (v := nI ((ixF (ftB S z ln lm ld lg) (30 * S.1.1) k) / 30)) (by rw [e1.2 109 (by omega)]; exact i4.1) ?_
    refine je_aload0 (pc := 30) d11008_30 rfl ?_
    refine ju_getr (pc := 31) (b := 110) d11008_31 jF_11_18 rfl (sK107 H1) (sR107_2 H1) ?_
    refine je_iload (pc := 34) d11008_34 rfl ?_
    refine ju_iald (pc := 36) (jn := (k)) d11008_36 (sK110 H1) (vp_in_nI (by omega) (by decide)) (nI_clamp (by omega)) ?_
    refine ju_eqi (v := nI ((ixF (ftB S z ln lm ld lg) (30 * S.1.1) k) % 30)) (by rw [e1.2 110 (by omega)]; exact i4.2) ?_
    refine je_iload1 (pc := 37) d11008_37 rfl ?_
    refine je_iload2 (pc := 38) d11008_38 rfl ?_
    refine ju_callv (pc := 39) (as := [_, _, _, _]) d11008_39 jL_11_89 jM_Th_doughBy rfl (by decide) (sK107 H1) rfl (by exact Nat.le_of_ble_eq_true rfl) (t_Th_doughBy d (S := S) H1 hs1 P1 hS1 (fun m hm n hn => by rw [e1.2 108 (by omega)]; exact hU m hm n hn) hmi ((congrFun (e1.2 107 (by omega)) 5).trans hz) (a := (ixF (ftB S z ln lm ld lg) (30 * S.1.1) k) / 30) (b := (ixF (ftB S z ln lm ld lg) (30 * S.1.1) k) % 30) (m := m) (n := n) hm hn (by omega) (by omega)) (fun r39 h39 q39 => ?_)
    obtain ⟨rfl, e39⟩ := q39
    obtain rfl := e39.symm
    refine ju_eqi (v := nI (dvN S z n m (ixF (ftB S z ln lm ld lg) (30 * S.1.1) k))) v2 ?_
    refine je_iconst (pc := 42) (v := 0) d11008_42 rfl ?_
    refine je_bipush (pc := 43) (v := 99) d11008_43 rfl ?_
    refine ju_callsN (pc := 45) (as := [_, _, _]) d11008_45 jL_11_111 jM_Db_held rfl rfl (by exact Nat.le_of_ble_eq_true rfl) (t_Db_held (d + 2) _ _ _) (fun r45 h45 q45 => ?_)
    obtain ⟨rfl, e45⟩ := q45
    obtain rfl := e45.symm
    refine ju_eqi (v := nI (dvN S z n m (ixF (ftB S z ln lm ld lg) (30 * S.1.1) k))) (hold_in v1) ?_
    refine ju_istore (pc := 48) (lv' := [some _, some _, some _, some _, some _, some _]) d11008_48 rfl rfl ?_
    refine je_aload0 (pc := 50) d11008_50 rfl ?_
    refine ju_getr (pc := 51) (b := 111) d11008_51 jF_11_21 rfl (sK107 H1) (sR107_3 H1) ?_
    refine je_iload (pc := 54) d11008_54 rfl ?_
    refine je_dup2 (pc := 56) d11008_56 rfl rfl ?_
    have ck2 : clN (ftB S z ln lm ld lg) (dvN S z n m) (30 * S.1.1) k (dvN S z n m (ixF (ftB S z ln lm ld lg) (30 * S.1.1) k)) ≤ k := ck
    refine ju_iald (pc := 57) (jn := (dvN S z n m (ixF (ftB S z ln lm ld lg) (30 * S.1.1) k))) d11008_57 (sK111 H1) (vp_in_nI (by omega) (by decide)) (nI_clamp (by omega)) ?_
    refine ju_eqi (v := nI (clN (ftB S z ln lm ld lg) (dvN S z n m) (30 * S.1.1) k (dvN S z n m (ixF (ftB S z ln lm ld lg) (30 * S.1.1) k)))) (e2 _ (by omega)) ?_
    refine je_iconst (pc := 58) (v := 1) d11008_58 rfl ?_
    refine je_iadd (pc := 59) d11008_59 ?_
    refine ju_eqi (v := nI ((clN (ftB S z ln lm ld lg) (dvN S z n m) (30 * S.1.1) k (dvN S z n m (ixF (ftB S z ln lm ld lg) (30 * S.1.1) k))) + 1)) (nI_add (clN (ftB S z ln lm ld lg) (dvN S z n m) (30 * S.1.1) k (dvN S z n m (ixF (ftB S z ln lm ld lg) (30 * S.1.1) k))) 1) ?_
    refine ju_iast (pc := 60) (jn := (dvN S z n m (ixF (ftB S z ln lm ld lg) (30 * S.1.1) k))) d11008_60 (sK111 H1) (vp_in_nI (by omega) (by decide)) (nI_clamp (by omega)) ?_
    refine je_iload3 (pc := 61) d11008_61 rfl ?_
    refine je_aload0 (pc := 62) d11008_62 rfl ?_
    refine ju_getr (pc := 63) (b := 111) d11008_63 jF_11_21 rfl (sK107 H1.wI) (sR107_3 H1.wI) ?_
    refine je_iload (pc := 66) d11008_66 rfl ?_
    refine ju_iald (pc := 68) (jn := (dvN S z n m (ixF (ftB S z ln lm ld lg) (30 * S.1.1) k))) d11008_68 (sK111 H1.wI) (vp_in_nI (by omega) (by decide)) (nI_clamp (by omega)) ?_
    refine ju_eqi (v := nI (clN (ftB S z ln lm ld lg) (dvN S z n m) (30 * S.1.1) k (dvN S z n m (ixF (ftB S z ln lm ld lg) (30 * S.1.1) k)) + 1)) (by rw [wI_at, jx_up_self]) ?_
    refine je_mmax (pc := 69) d11008_69 jLm_11_115 (by exact Nat.le_of_ble_eq_true rfl) ?_
    refine ju_eqi (v := nI (if xx.1 < clN (ftB S z ln lm ld lg) (dvN S z n m) (30 * S.1.1) k (dvN S z n m (ixF (ftB S z ln lm ld lg) (30 * S.1.1) k)) + 1 then clN (ftB S z ln lm ld lg) (dvN S z n m) (30 * S.1.1) k (dvN S z n m (ixF (ftB S z ln lm ld lg) (30 * S.1.1) k)) + 1 else xx.1)) (mx_nI (by omega) (by omega)) ?_
    refine ju_istore3 (pc := 72) (lv' := [some _, some _, some _, some _, some _, some _]) d11008_72 rfl rfl ?_
    refine ju_incN (pc := 73) (v := nI ((k) + 1)) (lv' := [some _, some _, some _, some _, some _, some _]) d11008_73 rfl (nI_1 (k)) rfl ?_
    refine je_goto (pc := 76) 13 d11008_76 (by decide) ?_
    refine kk (if xx.1 < clN (ftB S z ln lm ld lg) (dvN S z n m) (30 * S.1.1) k (dvN S z n m (ixF (ftB S z ln lm ld lg) (30 * S.1.1) k)) + 1 then clN (ftB S z ln lm ld lg) (dvN S z n m) (30 * S.1.1) k (dvN S z n m (ixF (ftB S z ln lm ld lg) (30 * S.1.1) k)) + 1 else xx.1, some _) _ ⟨e1.wI rfl, fun e he => ?_, e3.go (x := dvN S z n m (ixF (ftB S z ln lm ld lg) (30 * S.1.1) k)) (by omega) (fa_cnt_yes (decide_eq_true rfl)) (fun e he => fa_cnt_no (decide_eq_false (fun q => he q.symm))), ?_⟩
    · rw [wI_at]
      by_cases c : e = dvN S z n m (ixF (ftB S z ln lm ld lg) (30 * S.1.1) k)
      · subst c; rw [jx_up_self]; exact congrArg nI (fa_cnt_yes (p := fun j => decide ((dvN S z n m) (ixF (ftB S z ln lm ld lg) (30 * S.1.1) j) = dvN S z n m (ixF (ftB S z ln lm ld lg) (30 * S.1.1) k))) (decide_eq_true rfl)).symm
      · rw [jx_up_ne _ _ c, e2 e he]; exact congrArg nI (fa_cnt_no (p := fun j => decide ((dvN S z n m) (ixF (ftB S z ln lm ld lg) (30 * S.1.1) j) = e)) (decide_eq_false (fun q => c q.symm))).symm
    · show (if xx.1 < clN (ftB S z ln lm ld lg) (dvN S z n m) (30 * S.1.1) k (dvN S z n m (ixF (ftB S z ln lm ld lg) (30 * S.1.1) k)) + 1 then clN (ftB S z ln lm ld lg) (dvN S z n m) (30 * S.1.1) k (dvN S z n m (ixF (ftB S z ln lm ld lg) (30 * S.1.1) k)) + 1 else xx.1) ≤ k + 1
      split <;> omega
  · obtain ⟨e1, e2, e3, e4⟩ := e
    have H1 := e1.St H
    have P1 := e1.Sp P
    have hs1 := e1.rr hs
    have hS1 : rS h'.2.1 s S := hS.of (fun b h1 h2 => e1.2 b (fun z => by unfold sA at hsA; omega))
    have cf : h'.2.1 107 6 = nI (fa_cnt (ftB S z ln lm ld lg) (30 * S.1.1)) := by rw [e1.2 107 (by omega)]; exact hf.1
    refine je_iload (pc := 13) d11008_13 rfl ?_
    refine je_aload0 (pc := 15) d11008_15 rfl ?_
    refine ju_geti (pc := 16) d11008_16 jF_11_38 rfl (sK107 H1) ?_
    refine ju_eqi (v := nI (fa_cnt (ftB S z ln lm ld lg) (30 * S.1.1))) cf ?_
    refine jn_icge (pc := 19) (a := ((fa_cnt (ftB S z ln lm ld lg) (30 * S.1.1)))) (b := (fa_cnt (ftB S z ln lm ld lg) (30 * S.1.1))) 79 d11008_19 (by decide) (by omega) (by omega) (fun c19 => ?_) (fun c19 => by exfalso; omega)
    refine je_iload3 (pc := 79) d11008_79 rfl ?_
    refine je_iret (pc := 80) d11008_80 rfl ?_
    refine ⟨?_, e1⟩
    have e5 : MXR (alN (ftB S z ln lm ld lg) (dvN S z n m) (30 * S.1.1)) 100 xx.1 := by
      have : clN (ftB S z ln lm ld lg) (dvN S z n m) (30 * S.1.1) (fa_cnt (ftB S z ln lm ld lg) (30 * S.1.1)) = alN (ftB S z ln lm ld lg) (dvN S z n m) (30 * S.1.1) := funext (fun e => cl_al (Nat.le_refl _))
      rw [this] at e3
      exact e3
    rw [e5.u (mxD_ok _ 100)]
theorem mm_le (F : Nat → Bool) (v : Nat → Nat) (t : Nat) : mxD (alN F v t) 100 ≤ fa_cnt F t := by
  rcases (mxD_ok (alN F v t) 100).2 with z | ⟨e, -, ee⟩
  · omega
  · rw [← ee]; exact alN_le F v e t
set_option maxHeartbeats 4000000 in
theorem t_Th_sortBy (d : Nat) {bc bs : Nat} {h : jx_H} {s : Nat} {S : MS} (H : jx_St h) (hs : h.2.2.2 107 4 = some s) (P : jx_Sp h s) (hS : rS h.2.1 s S) (hU : ∀ m, m < S.1.1 → ∀ n, n < 31 → h.2.1 108 (m * 31 + n) = untI S m n) (hmi : S.1.1 ≤ 10) {z : Int32} (hz : h.2.1 107 5 = z) {lg : Nat} {ln lm ld : Nat → Int32} (hf : fnd h (ftB S z ln lm ld lg) (30 * S.1.1)) (wS : wfS S) (hz1 : ¬ z < 1) (hsA : sA s) {n : Nat} (hn : n < 31) (h0 : 0 < S.1.1) : jx_Tr (d + 5) bc bs 11007 [.ref 107, .int (nI n)] h (fun r h' => r = none ∧ fC (fun b => b = 107 ∨ b = 111) h h' ∧ h'.2.1 107 7 = nI (amF (fun m => mxD (alN (ftB S z ln lm ld lg) (dvN S z n m) (30 * S.1.1)) 100) S.1.1) ∧ h'.2.1 107 8 = nI ((fun m => mxD (alN (ftB S z ln lm ld lg) (dvN S z n m) (30 * S.1.1)) 100) (amF (fun m => mxD (alN (ftB S z ln lm ld lg) (dvN S z n m) (30 * S.1.1)) 100) S.1.1))) := by
  refine jx_tr jM_Th_sortBy rfl rfl (lv := [some (.ref 107), some (.int (nI n)), none, none]) rfl ?_
  have cl := fa_cnt_le (ftB S z ln lm ld lg) (30 * S.1.1)
  refine je_aload0 (pc := 0) d11007_0 rfl ?_
  refine je_iconst (pc := 1) (v := -1) d11007_1 rfl ?_
  refine ju_puti (pc := 2) d11007_2 jF_11_96 rfl (sK107 H) ?_
  refine je_aload0 (pc := 5) d11007_5 rfl ?_
  refine je_aload0 (pc := 6) d11007_6 rfl ?_
  refine ju_geti (pc := 7) d11007_7 jF_11_38 rfl (sK107 H.wI) ?_
  refine ju_eqi (v := nI (fa_cnt (ftB S z ln lm ld lg) (30 * S.1.1))) (by rw [wI_at, jx_up_ne _ _ (by decide)]; exact hf.1) ?_
  refine je_iconst (pc := 10) (v := 1) d11007_10 rfl ?_
  refine je_iadd (pc := 11) d11007_11 ?_
  refine ju_eqi (v := nI ((fa_cnt (ftB S z ln lm ld lg) (30 * S.1.1)) + 1)) (nI_add (fa_cnt (ftB S z ln lm ld lg) (30 * S.1.1)) 1) ?_
  refine ju_puti (pc := 12) d11007_12 jF_11_99 rfl (sK107 H.wI) ?_
  refine je_iconst (pc := 15) (v := 0) d11007_15 rfl ?_
  refine ju_istore2 (pc := 16) (lv' := [some _, some _, some _, none]) d11007_16 rfl rfl ?_
  refine je_loop (σ := Option Value) (S.1.1) (fun k xx => [some (.ref 107), some (.int (nI n)), some (.int (nI k)), xx]) (fun k _ h' => fC (fun b => b = 107 ∨ b = 111) h h' ∧ (∀ j, j ≠ 7 → j ≠ 8 → h'.2.1 107 j = h.2.1 107 j) ∧ ((k = 0 ∧ h'.2.1 107 7 = -1 ∧ h'.2.1 107 8 = nI (fa_cnt (ftB S z ln lm ld lg) (30 * S.1.1) + 1)) ∨ (0 < k ∧ h'.2.1 107 7 = nI (amF (fun m => mxD (alN (ftB S z ln lm ld lg) (dvN S z n m) (30 * S.1.1)) 100) k) ∧ h'.2.1 107 8 = nI ((fun m => mxD (alN (ftB S z ln lm ld lg) (dvN S z n m) (30 * S.1.1)) 100) (amF (fun m => mxD (alN (ftB S z ln lm ld lg) (dvN S z n m) (30 * S.1.1)) 100) k))))) (fun k xx h' hk e kk => ?_) (fun xx h' e => ?_) (0) none _ (by omega) ⟨(fC.rf.wI (by omega)).wI (by omega), fun j h1 h2 => by rw [wI_at, jx_up_ne _ _ h2, wI_at, jx_up_ne _ _ h1], Or.inl ⟨rfl, by rw [wI_at, jx_up_ne _ _ (by decide), wI_at, jx_up_self], by rw [wI_at, jx_up_self]⟩⟩
  · obtain ⟨e1, e2, e3⟩ := e
    have H1 := e1.St H
    have P1 := e1.Sp P
    have hs1 := e1.rr hs
    have hS1 : rS h'.2.1 s S := hS.of (fun b h1 h2 => e1.2 b (fun z => by unfold sA at hsA; omega))
    refine je_iload2 (pc := 17) d11007_17 rfl ?_
    refine je_aload0 (pc := 18) d11007_18 rfl ?_
    refine ju_getr (pc := 19) (b := s) d11007_19 jF_11_27 rfl (sK107 H1) hs1 ?_
    refine ju_geti (pc := 22) d11007_22 jF_11_44 rfl P1.1.1 ?_
    refine ju_eqi (v := nI S.1.1) hS1.1.1 ?_
    refine jn_icge (pc := 25) (a := (k)) (b := (S.1.1)) 59 d11007_25 (by decide) (by omega) (by omega) (fun c25 => by exfalso; omega) (fun c25 => ?_)
    refine je_aload0 (pc := 28) d11007_28 rfl ?_
    refine je_iload2 (pc := 29) d11007_29 rfl ?_
    refine je_iload1 (pc := 30) d11007_30 rfl ?_
    refine ju_callv (pc := 31) (as := [_, _]) d11007_31 jL_11_102 jM_Th_mostAlikeBy rfl (by decide) (sK107 H1) rfl (by exact Nat.le_of_ble_eq_true rfl) (t_Th_mostAlikeBy d (S := S) (z := z) (lg := lg) (ln := ln) (lm := lm) (ld := ld) H1 hs1 P1 hS1 (fun m hm n hn => by rw [e1.2 108 (by omega)]; exact hU m hm n hn) hmi ((e2 5 (by decide) (by decide)).trans hz) ⟨(e2 6 (by decide) (by decide)).trans hf.1, fun i h1 h2 => by rw [e1.2 109 (by omega), e1.2 110 (by omega)]; exact hf.2 i h1 h2⟩ wS hz1 hsA (m := k) (n := n) hk hn) (fun r31 h31 q31 => ?_)
    obtain ⟨rfl, f1⟩ := q31
    have H2 := f1.St H1
    have g7 : h31.2.1 107 = h'.2.1 107 := f1.2 107 (by omega)
    have ml := mm_le (ftB S z ln lm ld lg) (dvN S z n k) (30 * S.1.1)
    have ml2 : (fun m => mxD (alN (ftB S z ln lm ld lg) (dvN S z n m) (30 * S.1.1)) 100) (amF (fun m => mxD (alN (ftB S z ln lm ld lg) (dvN S z n m) (30 * S.1.1)) 100) k) ≤ fa_cnt (ftB S z ln lm ld lg) (30 * S.1.1) := mm_le (ftB S z ln lm ld lg) (dvN S z n (amF (fun m => mxD (alN (ftB S z ln lm ld lg) (dvN S z n m) (30 * S.1.1)) 100) k)) (30 * S.1.1)
    refine ju_istore3 (pc := 34) (lv' := [some _, some _, some _, some _]) d11007_34 rfl rfl ?_
    refine je_iload3 (pc := 35) d11007_35 rfl ?_
    refine je_aload0 (pc := 36) d11007_36 rfl ?_
    refine ju_geti (pc := 37) d11007_37 jF_11_99 rfl (sK107 H2) ?_
    refine ju_icge (pc := 40) 53 d11007_40 (by decide) (fun c40 => ?_) (fun c40 => ?_)
    · refine ju_incN (pc := 53) (v := nI ((k) + 1)) (lv' := [some _, some _, some _, some _]) d11007_53 rfl (nI_1 (k)) rfl ?_
      refine je_goto (pc := 56) 17 d11007_56 (by decide) ?_
      refine kk (some _) _ ⟨e1.tr (f1.mo (fun b hb => by omega)), fun j h1 h2 => by rw [g7]; exact e2 j h1 h2, Or.inr ⟨by omega, ?_⟩⟩
      rw [g7] at c40
      rw [g7]
      rcases e3 with ⟨z0, z1, z2⟩ | ⟨z0, z1, z2⟩
      · rw [z2] at c40
        exact absurd (nI_lt (by omega) (by omega)) c40
      · rw [z2, nI_ltI (by omega) (by omega)] at c40
        rw [amF, if_neg (by omega), if_neg c40]
        exact ⟨z1, z2⟩
    · refine je_aload0 (pc := 43) d11007_43 rfl ?_
      refine je_iload3 (pc := 44) d11007_44 rfl ?_
      refine ju_puti (pc := 45) d11007_45 jF_11_99 rfl (sK107 H2) ?_
      refine je_aload0 (pc := 48) d11007_48 rfl ?_
      refine je_iload2 (pc := 49) d11007_49 rfl ?_
      refine ju_puti (pc := 50) d11007_50 jF_11_96 rfl (sK107 H2.wI) ?_
      refine ju_incN (pc := 53) (v := nI ((k) + 1)) (lv' := [some _, some _, some _, some _]) d11007_53 rfl (nI_1 (k)) rfl ?_
      refine je_goto (pc := 56) 17 d11007_56 (by decide) ?_
      refine kk (some _) _ ⟨((e1.tr (f1.mo (fun b hb => by omega))).wI (by omega)).wI (by omega), fun j h1 h2 => by rw [wI_at, jx_up_ne _ _ h1, wI_at, jx_up_ne _ _ h2, g7]; exact e2 j h1 h2, Or.inr ⟨by omega, ?_⟩⟩
      have ea : amF (fun m => mxD (alN (ftB S z ln lm ld lg) (dvN S z n m) (30 * S.1.1)) 100) (k + 1) = k := by
        rw [g7] at c40
        rw [amF]
        rcases e3 with ⟨z0, z1, z2⟩ | ⟨z0, z1, z2⟩
        · rw [if_pos z0, z0]
        · rw [z2, nI_ltI (by omega) (by omega)] at c40
          rw [if_neg (by omega), if_pos c40]
      rw [ea, wI_at, jx_up_self, jx_up_ne _ _ (by decide), wI_at, jx_up_self]
      exact ⟨rfl, rfl⟩
  · obtain ⟨e1, e2, e3⟩ := e
    have H1 := e1.St H
    have P1 := e1.Sp P
    have hs1 := e1.rr hs
    have hS1 : rS h'.2.1 s S := hS.of (fun b h1 h2 => e1.2 b (fun z => by unfold sA at hsA; omega))
    refine je_iload2 (pc := 17) d11007_17 rfl ?_
    refine je_aload0 (pc := 18) d11007_18 rfl ?_
    refine ju_getr (pc := 19) (b := s) d11007_19 jF_11_27 rfl (sK107 H1) hs1 ?_
    refine ju_geti (pc := 22) d11007_22 jF_11_44 rfl P1.1.1 ?_
    refine ju_eqi (v := nI S.1.1) hS1.1.1 ?_
    refine jn_icge (pc := 25) (a := ((S.1.1))) (b := (S.1.1)) 59 d11007_25 (by decide) (by omega) (by omega) (fun c25 => ?_) (fun c25 => by exfalso; omega)
    refine je_ret (pc := 59) d11007_59 rfl ?_
    rcases e3 with ⟨z0, -⟩ | ⟨z0, z1, z2⟩
    · omega
    · exact ⟨rfl, e1, z1, z2⟩
set_option maxHeartbeats 2000000 in
theorem t_Db_weigh_n (d : Nat) {bc bs : Nat} {h : jx_H} {s : Nat} (H : jx_St h) (hr : h.2.2.2 26 0 = some s) (P : jx_Sp h s) (x y u : Int32) (G : ¬ ((0 < h.2.1 s 0 ∧ ¬ x < 1 ∧ ¬ 99 < x) ∧ ¬ y < 0 ∧ ¬ 30 < y ∧ ¬ u < 0 ∧ ¬ 1 < u)) : jx_Tr (d + 6) bc bs 32 [.ref 1, .int x, .int y, .int u] h (fun r h' => r = some (.int (-1)) ∧ h' = h) := by
  refine jx_tr jM_Db_weigh rfl rfl (lv := [some (.ref 1), some (.int x), some (.int y), some (.int u)]) rfl ?_
  refine je_aload0 (pc := 0) d32_0 rfl ?_
  refine je_iload1 (pc := 1) d32_1 rfl ?_
  refine ju_callv (pc := 2) (as := [_]) d32_2 jL_0_255 jM_Db_isTheftSize rfl (by decide) (sK1 H) rfl (by exact Nat.le_of_ble_eq_true rfl) (t_Db_isTheftSize (d + 3) H hr P _) (fun r2 h2 q2 => ?_)
  obtain ⟨rfl, e2⟩ := q2
  obtain rfl := e2.symm
  refine jb_ifeq (pc := 5) 27 d32_5 (by decide) (fun c5 => ?_) (fun c5 => ?_)
  · refine je_iconst (pc := 27) (v := -1) d32_27 rfl ?_
    refine je_iret (pc := 28) d32_28 rfl ?_
    exact ⟨rfl, rfl⟩
  · refine je_iload2 (pc := 8) d32_8 rfl ?_
    refine je_iflt (pc := 9) 27 d32_9 (by decide) (fun c9 => ?_) (fun c9 => ?_)
    · refine je_iconst (pc := 27) (v := -1) d32_27 rfl ?_
      refine je_iret (pc := 28) d32_28 rfl ?_
      exact ⟨rfl, rfl⟩
    · refine je_iload2 (pc := 12) d32_12 rfl ?_
      refine je_bipush (pc := 13) (v := 30) d32_13 rfl ?_
      refine je_icgt (pc := 15) 27 d32_15 (by decide) (fun c15 => ?_) (fun c15 => ?_)
      · refine je_iconst (pc := 27) (v := -1) d32_27 rfl ?_
        refine je_iret (pc := 28) d32_28 rfl ?_
        exact ⟨rfl, rfl⟩
      · refine je_iload3 (pc := 18) d32_18 rfl ?_
        refine je_iflt (pc := 19) 27 d32_19 (by decide) (fun c19 => ?_) (fun c19 => ?_)
        · refine je_iconst (pc := 27) (v := -1) d32_27 rfl ?_
          refine je_iret (pc := 28) d32_28 rfl ?_
          exact ⟨rfl, rfl⟩
        · refine je_iload3 (pc := 22) d32_22 rfl ?_
          refine je_iconst (pc := 23) (v := 1) d32_23 rfl ?_
          refine ju_icle (pc := 24) 29 d32_24 (by decide) (fun c24 => absurd c24 (fun q => G ⟨c5, c9, c15, c19, q⟩)) (fun c24 => ?_)
          refine je_iconst (pc := 27) (v := -1) d32_27 rfl ?_
          refine je_iret (pc := 28) d32_28 rfl ?_
          exact ⟨rfl, rfl⟩
set_option maxHeartbeats 2000000 in
theorem t_Db_weigh (d : Nat) {bc bs : Nat} {h : jx_H} {s : Nat} {S : MS} (H : jx_St h) (hr : h.2.2.2 26 0 = some s) (hsA : sA s) (P : jx_Sp h s) (hS : rS h.2.1 s S) (h0 : 0 < S.1.1) (hmi : S.1.1 ≤ 10) {lg : Nat} {ln lm ld : Nat → Int32} (h4 : h.2.1 26 4 = nI lg) (hlg : lg ≤ 10) (hl : ∀ k, k < lg → h.2.1 45 k = ln k ∧ h.2.1 46 k = lm k ∧ h.2.1 47 k = ld k) (wl : ∀ k, k < lg → (∃ x, x ≤ 30 ∧ ln k = nI x) ∧ (∃ m, m < S.1.1 ∧ lm k = nI m) ∧ ∃ e, e ≤ 99 ∧ ld k = nI e) (wS : wfS S) (z u : Int32) {n : Nat} (hz : ¬ z < 1 ∧ ¬ 99 < z) (hn : n ≤ 30) (hu : ¬ u < 0 ∧ ¬ 1 < u) : jx_Tr (d + 6) bc bs 32 [.ref 1, .int z, .int (nI n), .int u] h (fun r h' => r = some (.int (if fa_cnt (ftB S z ln lm ld lg) (30 * S.1.1) = 0 then -2 else if u = 0 then nI (amF (fun m => mxD (alN (ftB S z ln lm ld lg) (dvN S z n m) (30 * S.1.1)) 100) S.1.1) else nI ((fun m => mxD (alN (ftB S z ln lm ld lg) (dvN S z n m) (30 * S.1.1)) 100) (amF (fun m => mxD (alN (ftB S z ln lm ld lg) (dvN S z n m) (30 * S.1.1)) 100) S.1.1)))) ∧ fC (fun b => 107 ≤ b ∧ b ≤ 111) (jx_wR h 107 4 (some s)) h') := by
  refine jx_tr jM_Db_weigh rfl rfl (lv := [some (.ref 1), some (.int z), some (.int (nI n)), some (.int u)]) rfl ?_
  refine je_aload0 (pc := 0) d32_0 rfl ?_
  refine je_iload1 (pc := 1) d32_1 rfl ?_
  refine ju_callv (pc := 2) (as := [_]) d32_2 jL_0_255 jM_Db_isTheftSize rfl (by decide) (sK1 H) rfl (by exact Nat.le_of_ble_eq_true rfl) (t_Db_isTheftSize (d + 3) H hr P _) (fun r2 h2 q2 => ?_)
  obtain ⟨rfl, e2⟩ := q2
  obtain rfl := e2.symm
  refine jb_ifeq (pc := 5) 27 d32_5 (by decide) (fun c5 => absurd c5 (fun q => q ⟨by rw [hS.1.1]; exact nI_lt (a := 0) h0 (by omega), hz⟩)) (fun c5 => ?_)
  refine je_iload2 (pc := 8) d32_8 rfl ?_
  refine jn_iflt (pc := 9) (a := (n)) 27 d32_9 (by decide) (by omega) (fun c9 => by exfalso; omega) (fun c9 => ?_)
  refine je_iload2 (pc := 12) d32_12 rfl ?_
  refine je_bipush (pc := 13) (v := 30) d32_13 rfl ?_
  refine jn_icgt (pc := 15) (a := (n)) (b := 30) 27 d32_15 (by decide) (by omega) (by omega) (fun c15 => by exfalso; omega) (fun c15 => ?_)
  refine je_iload3 (pc := 18) d32_18 rfl ?_
  refine je_iflt (pc := 19) 27 d32_19 (by decide) (fun c19 => absurd c19 hu.1) (fun c19 => ?_)
  refine je_iload3 (pc := 22) d32_22 rfl ?_
  refine je_iconst (pc := 23) (v := 1) d32_23 rfl ?_
  refine ju_icle (pc := 24) 29 d32_24 (by decide) (fun c24 => ?_) (fun c24 => absurd c24 hu.2)
  refine je_aload0 (pc := 29) d32_29 rfl ?_
  refine ju_getr (pc := 30) (b := 107) d32_30 jF_0_79 rfl (sK1 H) (sR1_11 H) ?_
  refine je_aload0 (pc := 33) d32_33 rfl ?_
  refine ju_getr (pc := 34) (b := 26) d32_34 jF_0_41 rfl (sK1 H) (sR1_5 H) ?_
  refine je_iload1 (pc := 37) d32_37 rfl ?_
  refine ju_callv (pc := 38) (as := [_, _]) d32_38 jL_0_258 jM_Th_find rfl (by decide) (sK107 H) rfl (by exact Nat.le_of_ble_eq_true rfl) (t_Th_find (d + 0) (S := S) H hr hsA P hS hmi h4 hlg hl wl z) (fun r38 h38 q38 => ?_)
  obtain ⟨rfl, f1, f2, f3, f4⟩ := q38
  have H2 := f1.St (H.wR rfl)
  have cl := fa_cnt_le (ftB S z ln lm ld lg) (30 * S.1.1)
  refine je_aload0 (pc := 41) d32_41 rfl ?_
  refine ju_getr (pc := 42) (b := 107) d32_42 jF_0_79 rfl (sK1 H2) (sR1_11 H2) ?_
  refine ju_geti (pc := 45) d32_45 jF_0_262 rfl (sK107 H2) ?_
  refine ju_eqi (v := nI (fa_cnt (ftB S z ln lm ld lg) (30 * S.1.1))) f2.1 ?_
  refine jn_ifne (pc := 48) (a := (fa_cnt (ftB S z ln lm ld lg) (30 * S.1.1))) 54 d32_48 (by decide) (by omega) (fun c48 => ?_) (fun c48 => ?_)
  · refine je_aload0 (pc := 54) d32_54 rfl ?_
    refine ju_getr (pc := 55) (b := 107) d32_55 jF_0_79 rfl (sK1 H2) (sR1_11 H2) ?_
    refine je_iload2 (pc := 58) d32_58 rfl ?_
    refine ju_callv (pc := 59) (as := [_]) d32_59 jL_0_271 jM_Th_sortBy rfl (by decide) (sK107 H2) rfl (by exact Nat.le_of_ble_eq_true rfl) (t_Th_sortBy d (S := S) (z := z) (lg := lg) (ln := ln) (lm := lm) (ld := ld) H2 ((f1.rr (by rw [wR_at, jx_up_self]))) (f1.Sp (P.rf rfl (fun b h1 h2 => wR_ne h 4 (some s) (fun z => by unfold sA at hsA; omega)))) (hS.of (fun b h1 h2 => f1.2 b (fun z => by unfold sA at hsA; omega))) f3 hmi f4 f2 wS hz.1 hsA (n := n) (by omega) h0) (fun r59 h59 q59 => ?_)
    obtain ⟨rfl, f5, f6, f7⟩ := q59
    have H3 := f5.St H2
    refine je_iload3 (pc := 62) d32_62 rfl ?_
    refine je_ifne (pc := 63) 76 d32_63 (by decide) (fun c63 => ?_) (fun c63 => ?_)
    · refine je_aload0 (pc := 76) d32_76 rfl ?_
      refine ju_getr (pc := 77) (b := 107) d32_77 jF_0_79 rfl (sK1 H3) (sR1_11 H3) ?_
      refine ju_geti (pc := 80) d32_80 jF_0_277 rfl (sK107 H3) ?_
      refine ju_eqi (v := nI ((fun m => mxD (alN (ftB S z ln lm ld lg) (dvN S z n m) (30 * S.1.1)) 100) (amF (fun m => mxD (alN (ftB S z ln lm ld lg) (dvN S z n m) (30 * S.1.1)) 100) S.1.1))) f7 ?_
      refine je_iret (pc := 83) d32_83 rfl ?_
      exact ⟨by rw [if_neg c48, if_neg c63], (f1.mo (fun b hb => by omega)).tr (f5.mo (fun b hb => by omega))⟩
    · refine je_aload0 (pc := 66) d32_66 rfl ?_
      refine ju_getr (pc := 67) (b := 107) d32_67 jF_0_79 rfl (sK1 H3) (sR1_11 H3) ?_
      refine ju_geti (pc := 70) d32_70 jF_0_274 rfl (sK107 H3) ?_
      refine ju_eqi (v := nI (amF (fun m => mxD (alN (ftB S z ln lm ld lg) (dvN S z n m) (30 * S.1.1)) 100) S.1.1)) f6 ?_
      refine je_goto (pc := 73) 83 d32_73 (by decide) ?_
      refine je_iret (pc := 83) d32_83 rfl ?_
      exact ⟨by rw [if_neg c48, if_pos c63], (f1.mo (fun b hb => by omega)).tr (f5.mo (fun b hb => by omega))⟩
  · refine je_bipush (pc := 51) (v := -2) d32_51 rfl ?_
    refine je_iret (pc := 53) d32_53 rfl ?_
    exact ⟨by rw [if_pos c48], f1.mo (fun b hb => by omega)⟩
