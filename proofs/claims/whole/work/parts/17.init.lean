/-! The heap with which the law's loop begins. -/
def jl_i (L : Nat) (xs : Nat → Int32) : jx_H := ([.inl (5, L)], (fun a j => if a = 0 then xs j else 0), (fun _ _ => 0), (fun _ _ => none))
def jl_h0 (L : Nat) (xs : Nat → Int32) : jx_H := mk_Mo_init (jx_nw (mk_Db_init (jx_nw (jl_i L xs) 1 (.inr (.inl 0)))) 253 (.inr (.inl 12)))
theorem jx_nw_S (h : jx_H) (n : Nat) (k : jx_K) : (jx_nw h n k).1 = h.1 ++ [k] := rfl
set_option maxRecDepth 100000 in
theorem jl_S0 (L : Nat) (xs : Nat → Int32) : (jl_h0 L xs).1 = .inl (5, L) :: jl_S := by
  rw [jl_h0, mk_Mo_init_S, jx_nw_S, mk_Db_init_S, jx_nw_S]
  rfl
set_option maxRecDepth 100000 in
set_option maxHeartbeats 8000000 in
theorem jl_R0 (L : Nat) (xs : Nat → Int32) : jl_R.map (fun q => (jl_h0 L xs).2.2.2 q.1 q.2.1) = jl_R.map (fun q => some q.2.2) := rfl
theorem jl_St0 (L : Nat) (xs : Nat → Int32) : jx_St (jl_h0 L xs) := by
  refine ⟨fun a k hk => by rw [jl_S0]; simpa using hk, fun q hq => ?_⟩
  obtain ⟨i, hi⟩ := List.getElem?_of_mem hq
  have h := congrArg (fun l => l[i]?) (jl_R0 L xs)
  simpa [hi] using h
theorem law_all {Inv : Nat → jx_H → Prop} (hc : ∀ {n : Nat} (h : jx_H), Inv n h → h.1[1]? = some (.inr (.inl 0)) ∧ h.1[253]? = some (.inr (.inl 12))) (hw : ∀ n h, Inv n h → Inv (n + 1) h) (op0 : ∀ v1 v2 v3 v4 v5 : Int32, jo Inv 1 12001 [.int v1, .int v2, .int v3, .int v4, .int v5]) (op1 : ∀ v1 : Int32, jo Inv 2 12003 [.int v1]) (op2 : jo Inv 3 12004 []) (op3 : jo Inv 5 12025 []) (op4 : ∀ v1 : Int32, jo Inv 6 12040 [.int v1]) (op5 : ∀ v1 v2 : Int32, jo Inv 7 12041 [.int v1, .int v2]) (op6 : ∀ v1 v2 : Int32, jo Inv 9 12045 [.int v1, .int v2]) (op7 : ∀ v1 : Int32, jo Inv 11 12048 [.int v1]) (op8 : jo Inv 13 12055 []) (op9 : ∀ v1 v2 : Int32, jo Inv 18 12070 [.int v1, .int v2]) (op10 : ∀ v1 : Int32, jo Inv 20 12073 [.int v1]) (op11 : ∀ v1 : Int32, jo Inv 21 12074 [.int v1]) (op12 : ∀ v1 v2 : Int32, jo Inv 22 12075 [.int v1, .int v2]) (op13 : ∀ v1 : Int32, jo Inv 23 12076 [.int v1]) (op14 : jo Inv 24 12051 []) (op15 : ∀ v1 v2 v3 : Int32, jo Inv 25 12077 [.int v1, .int v2, .int v3]) (op16 : ∀ v1 : Int32, jo Inv 26 12084 [.int v1]) (op17 : ∀ v1 v2 : Int32, jo Inv 27 12085 [.int v1, .int v2]) (op18 : ∀ v1 v2 : Int32, jo Inv 28 12089 [.int v1, .int v2]) (op19 : ∀ v1 v2 v3 : Int32, jo Inv 29 12098 [.int v1, .int v2, .int v3]) (op20 : ∀ v1 v2 : Int32, jo Inv 30 12099 [.int v1, .int v2]) (op21 : ∀ v1 v2 v3 : Int32, jo Inv 32 12102 [.int v1, .int v2, .int v3]) (op22 : ∀ v1 v2 v3 v4 : Int32, jo Inv 33 12103 [.int v1, .int v2, .int v3, .int v4]) (op23 : ∀ v1 v2 : Int32, jo Inv 34 12105 [.int v1, .int v2]) (op24 : ∀ v1 : Int32, jo Inv 35 12106 [.int v1]) (op25 : ∀ v1 : Int32, jo Inv 37 12107 [.int v1]) (op26 : ∀ v1 v2 v3 : Int32, jo Inv 38 12108 [.int v1, .int v2, .int v3]) (op27 : ∀ v1 : Int32, jo Inv 39 12110 [.int v1]) (op28 : ∀ v1 : Int32, jo Inv 40 12112 [.int v1]) (op29 : ∀ v1 : Int32, jo Inv 41 12113 [.int v1]) (h0 : ∀ L xs, Inv 0 (jl_h0 L xs)) (L : Nat) (xs : Nat → Int32) (hL : L ≤ 3072) :
    jx_Ev 200 600000 7302250 13000 0 [some (.ref 0), none, none, none] [] (jl_i L xs) (fun r _ => r = some (.int 1)) := by
  refine jx_Ev.more (bc := (251 + ((50 + 13 * 513) + 1)) + 1) (bs := (11502 + ((13082 + 206 * 513) + 68)) + 12) (by decide) (by decide) ?_
  refine ju_new (pc := 0) (n := 1) (N := 12) d13000_0 jC_13_7 rfl rfl (by decide) ?_
  refine je_dup (pc := 3) d13000_3 rfl ?_
  refine je_calli (pc := 4) (as := []) (mc := 251) (ms := 11502) d13000_4 jL_13_9 jM_Db_init rfl rfl (by exact Nat.le_of_ble_eq_true rfl) (t_Db_init 194 rfl rfl) (fun r4 h4 q4 => ?_)
  obtain ⟨rfl, rfl⟩ := q4
  refine ju_astore1 (pc := 7) (lv' := [some _, some _, none, none]) d13000_7 rfl rfl ?_
  have hl : (mk_Db_init (jx_nw (jl_i L xs) 1 (.inr (.inl 0)))).1.length = 253 := mk_Db_init_len (jk_nl rfl)
  refine ju_new (pc := 8) (n := 253) (N := 68) d13000_8 jC_13_10 rfl hl (by decide) ?_
  refine je_dup (pc := 11) d13000_11 rfl ?_
  refine ju_bud (bc' := 50 + 13 * 513) (bs' := 13082 + 206 * 513) (by decide) (by decide) ?_
  refine je_calli (pc := 12) (as := []) (mc := 50) (ms := 13082) d13000_12 jL_13_12 jM_Mo_init rfl rfl (by exact Nat.le_of_ble_eq_true rfl) (t_Mo_init 197 (jk_nN hl) (jk_nl hl)) (fun r12 h12 q12 => ?_)
  obtain ⟨rfl, rfl⟩ := q12
  refine ju_astore2 (pc := 15) (lv' := [some _, some _, some _, none]) d13000_15 rfl rfl ?_
  refine je_iconst (pc := 16) (v := 0) d13000_16 rfl ?_
  refine ju_istore3 (pc := 17) (lv' := [some _, some _, some _, some _]) d13000_17 rfl rfl ?_
  exact lw_loop hc hw op0 op1 op2 op3 op4 op5 op6 op7 op8 op9 op10 op11 op12 op13 op14 op15 op16 op17 op18 op19 op20 op21 op22 op23 op24 op25 op26 op27 op28 op29 hL 513 0 (jl_h0 L xs) rfl (h0 L xs) (by rw [jl_S0]; rfl)
