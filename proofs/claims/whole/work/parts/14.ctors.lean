/-! Constructors. -/
/-- a new cell at n, which is the first free place -/
def jx_nw (h : jx_H) (n : Nat) (k : jx_K) : jx_H := (h.1 ++ [k], jx_row h.2.1 n (fun _ => 0), jx_row h.2.2.1 n (fun _ => 0), jx_row h.2.2.2 n (fun _ => none))
theorem jx_nw_eq {h : jx_H} {n : Nat} (hn : h.1.length = n) (k : jx_K) : jx_new h k = jx_nw h n k := by subst hn; rfl
theorem jk_nl {h : jx_H} {n : Nat} (hn : h.1.length = n) {k : jx_K} : (jx_nw h n k).1.length = n + 1 := by simp [jx_nw, hn]
theorem jk_nw {h : jx_H} {n : Nat} {k : jx_K} {b : Nat} {k0 : jx_K} (hb : h.1[b]? = some k0) : (jx_nw h n k).1[b]? = some k0 := by
  show (h.1 ++ [k])[b]? = some k0
  rw [List.getElem?_append_left (List.getElem?_eq_some_iff.mp hb).1]
  exact hb
theorem jk_nN {h : jx_H} {n : Nat} (hn : h.1.length = n) {k : jx_K} : (jx_nw h n k).1[n]? = some k := by
  subst hn
  show (h.1 ++ [k])[h.1.length]? = some k
  simp
theorem jk_pI {h : jx_H} {a k n : Nat} {v : Int32} (hn : h.1.length = n) : (jx_wI h a k v).1.length = n := hn
theorem jk_pR {h : jx_H} {a k n : Nat} {v : Option Nat} (hn : h.1.length = n) : (jx_wR h a k v).1.length = n := hn
theorem jk_qI {h : jx_H} {a k b : Nat} {v : Int32} {k0 : jx_K} (hb : h.1[b]? = some k0) : (jx_wI h a k v).1[b]? = some k0 := hb
theorem jk_qR {h : jx_H} {a k b : Nat} {v : Option Nat} {k0 : jx_K} (hb : h.1[b]? = some k0) : (jx_wR h a k v).1[b]? = some k0 := hb
section JN
variable {d bc bs i pc : Nat} {lv : List (Option Value)} {st : List Value} {h : jx_H} {Q : Option Value → jx_H → Prop}
theorem ju_new {x c0 n N : Nat} (hd : decode (jm_b i) pc = .ok (.new x, 3)) (hc : jx_C (jm_o i) x c0) (hN : jn_N c0 = N) (hn : h.1.length = n) (hlen : n < 900000) (k : jx_Ev d bc bs i (pc + 3) lv (.ref n :: st) (jx_nw h n (.inr (.inl c0))) Q) : jx_Ev d (bc + 1) (bs + N) i pc lv st h Q := je_new hd hc hN (by omega) rfl (by rw [jx_nw_eq hn, hn]; exact k)
theorem ju_newa {z : Int32} {t N n : Nat} {at0 : ArrayType} (hd : decode (jm_b i) pc = .ok (.newarray at0, 2)) (hw : Cond.arrayClass (newarray.typeOf at0) ∈ jx_T) (hp : (t, newarray.typeOf at0) ∈ jx_prims) (hz : ¬ z < 0) (hN : z.toNatClampNeg = N) (hN2 : N ≤ 60000000) (hn : h.1.length = n) (hlen : n < 900000) (k : jx_Ev d bc bs i (pc + 2) lv (.ref n :: st) (jx_nw h n (.inl (t, N))) Q) : jx_Ev d (bc + 1) (bs + N) i pc lv (.int z :: st) h Q := je_newa hd hw hp hz hN hN2 (by omega) rfl (by rw [jx_nw_eq hn, hn]; exact k)
theorem ju_anew {x c0 : Nat} {z : Int32} {N n : Nat} (hd : decode (jm_b i) pc = .ok (.anewarray x, 3)) (hc : jx_Ca (jm_o i) x c0) (hc0 : c0 ∈ jx_rcs) (hz : ¬ z < 0) (hN : z.toNatClampNeg = N) (hN2 : N ≤ 60000000) (hn : h.1.length = n) (hlen : n < 900000) (k : jx_Ev d bc bs i (pc + 3) lv (.ref n :: st) (jx_nw h n (.inr (.inr (c0, N)))) Q) : jx_Ev d (bc + 1) (bs + N) i pc lv (.int z :: st) h Q := je_anew hd hc hc0 hz hN hN2 (by omega) rfl (by rw [jx_nw_eq hn, hn]; exact k)
theorem ju_bud {bc' bs' : Nat} (h1 : bc = bc') (h2 : bs = bs') (k : jx_Ev d bc' bs' i pc lv st h Q) : jx_Ev d bc bs i pc lv st h Q := by subst h1; subst h2; exact k
end JN
def mk_La_init (h : jx_H) (a : Nat) : jx_H := (jx_wR (jx_nw (jx_wR (jx_nw (jx_wR (jx_nw (jx_wR (jx_nw h (a + 1) (.inl (1, 10))) a 0 (some (a + 1))) (a + 2) (.inl (1, 10))) a 1 (some (a + 2))) (a + 3) (.inl (1, 10))) a 2 (some (a + 3))) (a + 4) (.inl (1, 8))) a 3 (some (a + 4)))
theorem mk_La_init_S (h : jx_H) (a : Nat) : (mk_La_init h a).1 = h.1 ++ [.inl (1, 10), .inl (1, 10), .inl (1, 10), .inl (1, 8)] := by simp [mk_La_init, jx_nw, jx_wR, jx_wI]
theorem mk_La_init_len {h : jx_H} {a n : Nat} (hn : h.1.length = n) : (mk_La_init h a).1.length = n + 4 := by rw [mk_La_init_S, List.length_append, hn]; rfl
theorem mk_La_init_at {h : jx_H} {a b : Nat} {k0 : jx_K} (hb : h.1[b]? = some k0) : (mk_La_init h a).1[b]? = some k0 := by rw [mk_La_init_S, List.getElem?_append_left (List.getElem?_eq_some_iff.mp hb).1]; exact hb
set_option maxHeartbeats 2000000 in
theorem t_La_init (d : Nat) {h : jx_H} (a : Nat) (hA : h.1[a]? = some (.inr (.inl 4))) (hN : h.1.length = a + 1) (hlt : a < 800000) : jx_Tr (d + 2) 4 38 4000 [.ref a] h (fun r h' => r = none ∧ h' = mk_La_init h a) := by
  refine jx_tr jM_La_init rfl rfl (lv := [some (.ref a)]) rfl ?_
  refine je_aload0 (pc := 0) d4000_0 rfl ?_
  refine je_objInit (pc := 1) d4000_1 jLo_4_3 (by exact Nat.le_of_ble_eq_true rfl) ?_
  refine je_aload0 (pc := 4) d4000_4 rfl ?_
  refine je_bipush (pc := 5) (v := 10) d4000_5 rfl ?_
  refine ju_bud (bc' := 3 + 1) (bs' := 28 + 10) rfl rfl ?_
  refine ju_newa (pc := 7) (n := (a + 1)) (t := 1) (N := 10) d4000_7 jw_aint (by decide) (by decide) (by decide) (by decide) hN (by omega) ?_
  refine ju_putrF (pc := 9) d4000_9 jF_4_9 rfl rfl rfl rfl (jk_nw hA) ?_
  refine je_aload0 (pc := 12) d4000_12 rfl ?_
  refine je_bipush (pc := 13) (v := 10) d4000_13 rfl ?_
  refine ju_bud (bc' := 2 + 1) (bs' := 18 + 10) rfl rfl ?_
  refine ju_newa (pc := 15) (n := (a + 2)) (t := 1) (N := 10) d4000_15 jw_aint (by decide) (by decide) (by decide) (by decide) (jk_pR (jk_nl hN)) (by omega) ?_
  refine ju_putrF (pc := 17) d4000_17 jF_4_15 rfl rfl rfl rfl (jk_nw (jk_qR (jk_nw hA))) ?_
  refine je_aload0 (pc := 20) d4000_20 rfl ?_
  refine je_bipush (pc := 21) (v := 10) d4000_21 rfl ?_
  refine ju_bud (bc' := 1 + 1) (bs' := 8 + 10) rfl rfl ?_
  refine ju_newa (pc := 23) (n := (a + 3)) (t := 1) (N := 10) d4000_23 jw_aint (by decide) (by decide) (by decide) (by decide) (jk_pR (jk_nl (jk_pR (jk_nl hN)))) (by omega) ?_
  refine ju_putrF (pc := 25) d4000_25 jF_4_18 rfl rfl rfl rfl (jk_nw (jk_qR (jk_nw (jk_qR (jk_nw hA))))) ?_
  refine je_aload0 (pc := 28) d4000_28 rfl ?_
  refine je_bipush (pc := 29) (v := 8) d4000_29 rfl ?_
  refine ju_bud (bc' := 0 + 1) (bs' := 0 + 8) rfl rfl ?_
  refine ju_newa (pc := 31) (n := (a + 4)) (t := 1) (N := 8) d4000_31 jw_aint (by decide) (by decide) (by decide) (by decide) (jk_pR (jk_nl (jk_pR (jk_nl (jk_pR (jk_nl hN)))))) (by omega) ?_
  refine ju_putrF (pc := 33) d4000_33 jF_4_21 rfl rfl rfl rfl (jk_nw (jk_qR (jk_nw (jk_qR (jk_nw (jk_qR (jk_nw hA))))))) ?_
  refine je_ret (pc := 36) d4000_36 rfl ?_
  exact ⟨rfl, rfl⟩
def mk_Tx_init (h : jx_H) (a : Nat) : jx_H := (jx_wR (jx_nw h (a + 1) (.inl (1, 400))) a 0 (some (a + 1)))
theorem mk_Tx_init_S (h : jx_H) (a : Nat) : (mk_Tx_init h a).1 = h.1 ++ [.inl (1, 400)] := by simp [mk_Tx_init, jx_nw, jx_wR, jx_wI]
theorem mk_Tx_init_len {h : jx_H} {a n : Nat} (hn : h.1.length = n) : (mk_Tx_init h a).1.length = n + 1 := by rw [mk_Tx_init_S, List.length_append, hn]; rfl
theorem mk_Tx_init_at {h : jx_H} {a b : Nat} {k0 : jx_K} (hb : h.1[b]? = some k0) : (mk_Tx_init h a).1[b]? = some k0 := by rw [mk_Tx_init_S, List.getElem?_append_left (List.getElem?_eq_some_iff.mp hb).1]; exact hb
set_option maxHeartbeats 2000000 in
theorem t_Tx_init (d : Nat) {h : jx_H} (a : Nat) (hA : h.1[a]? = some (.inr (.inl 1))) (hN : h.1.length = a + 1) (hlt : a < 800000) : jx_Tr (d + 2) 1 400 1000 [.ref a] h (fun r h' => r = none ∧ h' = mk_Tx_init h a) := by
  refine jx_tr jM_Tx_init rfl rfl (lv := [some (.ref a)]) rfl ?_
  refine je_aload0 (pc := 0) d1000_0 rfl ?_
  refine je_objInit (pc := 1) d1000_1 jLo_1_3 (by exact Nat.le_of_ble_eq_true rfl) ?_
  refine je_aload0 (pc := 4) d1000_4 rfl ?_
  refine je_sipush (pc := 5) (v := 400) d1000_5 rfl ?_
  refine ju_bud (bc' := 0 + 1) (bs' := 0 + 400) rfl rfl ?_
  refine ju_newa (pc := 8) (n := (a + 1)) (t := 1) (N := 400) d1000_8 jw_aint (by decide) (by decide) (by decide) (by decide) hN (by omega) ?_
  refine ju_putrF (pc := 10) d1000_10 jF_1_9 rfl rfl rfl rfl (jk_nw hA) ?_
  refine je_ret (pc := 13) d1000_13 rfl ?_
  exact ⟨rfl, rfl⟩
def mk_Ru_init (h : jx_H) (a : Nat) : jx_H := (jx_wR (jx_nw (jx_wR (jx_nw (jx_wR (jx_nw (jx_wR (jx_nw (jx_wR (jx_nw h (a + 1) (.inl (1, 400))) a 0 (some (a + 1))) (a + 2) (.inl (1, 12))) a 2 (some (a + 2))) (a + 3) (.inl (1, 12))) a 3 (some (a + 3))) (a + 4) (.inl (1, 12))) a 4 (some (a + 4))) (a + 5) (.inl (2, 60))) a 6 (some (a + 5)))
theorem mk_Ru_init_S (h : jx_H) (a : Nat) : (mk_Ru_init h a).1 = h.1 ++ [.inl (1, 400), .inl (1, 12), .inl (1, 12), .inl (1, 12), .inl (2, 60)] := by simp [mk_Ru_init, jx_nw, jx_wR, jx_wI]
theorem mk_Ru_init_len {h : jx_H} {a n : Nat} (hn : h.1.length = n) : (mk_Ru_init h a).1.length = n + 5 := by rw [mk_Ru_init_S, List.length_append, hn]; rfl
theorem mk_Ru_init_at {h : jx_H} {a b : Nat} {k0 : jx_K} (hb : h.1[b]? = some k0) : (mk_Ru_init h a).1[b]? = some k0 := by rw [mk_Ru_init_S, List.getElem?_append_left (List.getElem?_eq_some_iff.mp hb).1]; exact hb
set_option maxHeartbeats 2000000 in
theorem t_Ru_init (d : Nat) {h : jx_H} (a : Nat) (hA : h.1[a]? = some (.inr (.inl 5))) (hN : h.1.length = a + 1) (hlt : a < 800000) : jx_Tr (d + 2) 5 496 5000 [.ref a] h (fun r h' => r = none ∧ h' = mk_Ru_init h a) := by
  refine jx_tr jM_Ru_init rfl rfl (lv := [some (.ref a)]) rfl ?_
  refine je_aload0 (pc := 0) d5000_0 rfl ?_
  refine je_objInit (pc := 1) d5000_1 jLo_5_3 (by exact Nat.le_of_ble_eq_true rfl) ?_
  refine je_aload0 (pc := 4) d5000_4 rfl ?_
  refine je_sipush (pc := 5) (v := 400) d5000_5 rfl ?_
  refine ju_bud (bc' := 4 + 1) (bs' := 96 + 400) rfl rfl ?_
  refine ju_newa (pc := 8) (n := (a + 1)) (t := 1) (N := 400) d5000_8 jw_aint (by decide) (by decide) (by decide) (by decide) hN (by omega) ?_
  refine ju_putrF (pc := 10) d5000_10 jF_5_9 rfl rfl rfl rfl (jk_nw hA) ?_
  refine je_aload0 (pc := 13) d5000_13 rfl ?_
  refine je_bipush (pc := 14) (v := 12) d5000_14 rfl ?_
  refine ju_bud (bc' := 3 + 1) (bs' := 84 + 12) rfl rfl ?_
  refine ju_newa (pc := 16) (n := (a + 2)) (t := 1) (N := 12) d5000_16 jw_aint (by decide) (by decide) (by decide) (by decide) (jk_pR (jk_nl hN)) (by omega) ?_
  refine ju_putrF (pc := 18) d5000_18 jF_5_15 rfl rfl rfl rfl (jk_nw (jk_qR (jk_nw hA))) ?_
  refine je_aload0 (pc := 21) d5000_21 rfl ?_
  refine je_bipush (pc := 22) (v := 12) d5000_22 rfl ?_
  refine ju_bud (bc' := 2 + 1) (bs' := 72 + 12) rfl rfl ?_
  refine ju_newa (pc := 24) (n := (a + 3)) (t := 1) (N := 12) d5000_24 jw_aint (by decide) (by decide) (by decide) (by decide) (jk_pR (jk_nl (jk_pR (jk_nl hN)))) (by omega) ?_
  refine ju_putrF (pc := 26) d5000_26 jF_5_18 rfl rfl rfl rfl (jk_nw (jk_qR (jk_nw (jk_qR (jk_nw hA))))) ?_
  refine je_aload0 (pc := 29) d5000_29 rfl ?_
  refine je_bipush (pc := 30) (v := 12) d5000_30 rfl ?_
  refine ju_bud (bc' := 1 + 1) (bs' := 60 + 12) rfl rfl ?_
  refine ju_newa (pc := 32) (n := (a + 4)) (t := 1) (N := 12) d5000_32 jw_aint (by decide) (by decide) (by decide) (by decide) (jk_pR (jk_nl (jk_pR (jk_nl (jk_pR (jk_nl hN)))))) (by omega) ?_
  refine ju_putrF (pc := 34) d5000_34 jF_5_21 rfl rfl rfl rfl (jk_nw (jk_qR (jk_nw (jk_qR (jk_nw (jk_qR (jk_nw hA))))))) ?_
  refine je_aload0 (pc := 37) d5000_37 rfl ?_
  refine je_bipush (pc := 38) (v := 60) d5000_38 rfl ?_
  refine ju_bud (bc' := 0 + 1) (bs' := 0 + 60) rfl rfl ?_
  refine ju_newa (pc := 40) (n := (a + 5)) (t := 2) (N := 60) d5000_40 jw_along (by decide) (by decide) (by decide) (by decide) (jk_pR (jk_nl (jk_pR (jk_nl (jk_pR (jk_nl (jk_pR (jk_nl hN)))))))) (by omega) ?_
  refine ju_putrF (pc := 42) d5000_42 jF_5_24 rfl rfl rfl rfl (jk_nw (jk_qR (jk_nw (jk_qR (jk_nw (jk_qR (jk_nw (jk_qR (jk_nw hA))))))))) ?_
  refine je_ret (pc := 45) d5000_45 rfl ?_
  exact ⟨rfl, rfl⟩
def mk_St_init (h : jx_H) (a : Nat) : jx_H := (jx_wR (mk_La_init (jx_nw (jx_wR (jx_nw (jx_wR (jx_nw (jx_wR (jx_nw (jx_wR (jx_nw (jx_wR (jx_nw (jx_wR (jx_nw (jx_wR (jx_nw h (a + 1) (.inl (1, 100))) a 4 (some (a + 1))) (a + 2) (.inl (1, 8))) a 5 (some (a + 2))) (a + 3) (.inl (1, 8))) a 6 (some (a + 3))) (a + 4) (.inl (1, 8))) a 7 (some (a + 4))) (a + 5) (.inl (1, 10))) a 8 (some (a + 5))) (a + 6) (.inl (1, 8))) a 9 (some (a + 6))) (a + 7) (.inl (1, 8))) a 10 (some (a + 7))) (a + 8) (.inr (.inl 4))) (a + 8)) a 11 (some (a + 8)))
theorem mk_St_init_S (h : jx_H) (a : Nat) : (mk_St_init h a).1 = h.1 ++ [.inl (1, 100), .inl (1, 8), .inl (1, 8), .inl (1, 8), .inl (1, 10), .inl (1, 8), .inl (1, 8), .inr (.inl 4), .inl (1, 10), .inl (1, 10), .inl (1, 10), .inl (1, 8)] := by simp [mk_St_init, jx_nw, jx_wR, jx_wI, mk_La_init_S]
theorem mk_St_init_len {h : jx_H} {a n : Nat} (hn : h.1.length = n) : (mk_St_init h a).1.length = n + 12 := by rw [mk_St_init_S, List.length_append, hn]; rfl
theorem mk_St_init_at {h : jx_H} {a b : Nat} {k0 : jx_K} (hb : h.1[b]? = some k0) : (mk_St_init h a).1[b]? = some k0 := by rw [mk_St_init_S, List.getElem?_append_left (List.getElem?_eq_some_iff.mp hb).1]; exact hb
set_option maxHeartbeats 2000000 in
theorem t_St_init (d : Nat) {h : jx_H} (a : Nat) (hA : h.1[a]? = some (.inr (.inl 3))) (hN : h.1.length = a + 1) (hlt : a < 790000) : jx_Tr (d + 3) 12 194 3000 [.ref a] h (fun r h' => r = none ∧ h' = mk_St_init h a) := by
  refine jx_tr jM_St_init rfl rfl (lv := [some (.ref a)]) rfl ?_
  refine je_aload0 (pc := 0) d3000_0 rfl ?_
  refine je_objInit (pc := 1) d3000_1 jLo_3_3 (by exact Nat.le_of_ble_eq_true rfl) ?_
  refine je_aload0 (pc := 4) d3000_4 rfl ?_
  refine je_bipush (pc := 5) (v := 100) d3000_5 rfl ?_
  refine ju_bud (bc' := 11 + 1) (bs' := 94 + 100) rfl rfl ?_
  refine ju_newa (pc := 7) (n := (a + 1)) (t := 1) (N := 100) d3000_7 jw_aint (by decide) (by decide) (by decide) (by decide) hN (by omega) ?_
  refine ju_putrF (pc := 9) d3000_9 jF_3_9 rfl rfl rfl rfl (jk_nw hA) ?_
  refine je_aload0 (pc := 12) d3000_12 rfl ?_
  refine je_bipush (pc := 13) (v := 8) d3000_13 rfl ?_
  refine ju_bud (bc' := 10 + 1) (bs' := 86 + 8) rfl rfl ?_
  refine ju_newa (pc := 15) (n := (a + 2)) (t := 1) (N := 8) d3000_15 jw_aint (by decide) (by decide) (by decide) (by decide) (jk_pR (jk_nl hN)) (by omega) ?_
  refine ju_putrF (pc := 17) d3000_17 jF_3_15 rfl rfl rfl rfl (jk_nw (jk_qR (jk_nw hA))) ?_
  refine je_aload0 (pc := 20) d3000_20 rfl ?_
  refine je_bipush (pc := 21) (v := 8) d3000_21 rfl ?_
  refine ju_bud (bc' := 9 + 1) (bs' := 78 + 8) rfl rfl ?_
  refine ju_newa (pc := 23) (n := (a + 3)) (t := 1) (N := 8) d3000_23 jw_aint (by decide) (by decide) (by decide) (by decide) (jk_pR (jk_nl (jk_pR (jk_nl hN)))) (by omega) ?_
  refine ju_putrF (pc := 25) d3000_25 jF_3_18 rfl rfl rfl rfl (jk_nw (jk_qR (jk_nw (jk_qR (jk_nw hA))))) ?_
  refine je_aload0 (pc := 28) d3000_28 rfl ?_
  refine je_bipush (pc := 29) (v := 8) d3000_29 rfl ?_
  refine ju_bud (bc' := 8 + 1) (bs' := 70 + 8) rfl rfl ?_
  refine ju_newa (pc := 31) (n := (a + 4)) (t := 1) (N := 8) d3000_31 jw_aint (by decide) (by decide) (by decide) (by decide) (jk_pR (jk_nl (jk_pR (jk_nl (jk_pR (jk_nl hN)))))) (by omega) ?_
  refine ju_putrF (pc := 33) d3000_33 jF_3_21 rfl rfl rfl rfl (jk_nw (jk_qR (jk_nw (jk_qR (jk_nw (jk_qR (jk_nw hA))))))) ?_
  refine je_aload0 (pc := 36) d3000_36 rfl ?_
  refine je_bipush (pc := 37) (v := 10) d3000_37 rfl ?_
  refine ju_bud (bc' := 7 + 1) (bs' := 60 + 10) rfl rfl ?_
  refine ju_newa (pc := 39) (n := (a + 5)) (t := 1) (N := 10) d3000_39 jw_aint (by decide) (by decide) (by decide) (by decide) (jk_pR (jk_nl (jk_pR (jk_nl (jk_pR (jk_nl (jk_pR (jk_nl hN)))))))) (by omega) ?_
  refine ju_putrF (pc := 41) d3000_41 jF_3_24 rfl rfl rfl rfl (jk_nw (jk_qR (jk_nw (jk_qR (jk_nw (jk_qR (jk_nw (jk_qR (jk_nw hA))))))))) ?_
  refine je_aload0 (pc := 44) d3000_44 rfl ?_
  refine je_bipush (pc := 45) (v := 8) d3000_45 rfl ?_
  refine ju_bud (bc' := 6 + 1) (bs' := 52 + 8) rfl rfl ?_
  refine ju_newa (pc := 47) (n := (a + 6)) (t := 1) (N := 8) d3000_47 jw_aint (by decide) (by decide) (by decide) (by decide) (jk_pR (jk_nl (jk_pR (jk_nl (jk_pR (jk_nl (jk_pR (jk_nl (jk_pR (jk_nl hN)))))))))) (by omega) ?_
  refine ju_putrF (pc := 49) d3000_49 jF_3_27 rfl rfl rfl rfl (jk_nw (jk_qR (jk_nw (jk_qR (jk_nw (jk_qR (jk_nw (jk_qR (jk_nw (jk_qR (jk_nw hA))))))))))) ?_
  refine je_aload0 (pc := 52) d3000_52 rfl ?_
  refine je_bipush (pc := 53) (v := 8) d3000_53 rfl ?_
  refine ju_bud (bc' := 5 + 1) (bs' := 44 + 8) rfl rfl ?_
  refine ju_newa (pc := 55) (n := (a + 7)) (t := 1) (N := 8) d3000_55 jw_aint (by decide) (by decide) (by decide) (by decide) (jk_pR (jk_nl (jk_pR (jk_nl (jk_pR (jk_nl (jk_pR (jk_nl (jk_pR (jk_nl (jk_pR (jk_nl hN)))))))))))) (by omega) ?_
  refine ju_putrF (pc := 57) d3000_57 jF_3_30 rfl rfl rfl rfl (jk_nw (jk_qR (jk_nw (jk_qR (jk_nw (jk_qR (jk_nw (jk_qR (jk_nw (jk_qR (jk_nw (jk_qR (jk_nw hA))))))))))))) ?_
  refine je_aload0 (pc := 60) d3000_60 rfl ?_
  refine ju_bud (bc' := 4 + 1) (bs' := 38 + 6) rfl rfl ?_
  refine ju_new (pc := 61) (n := (a + 8)) (N := 6) d3000_61 jC_3_33 rfl (jk_pR (jk_nl (jk_pR (jk_nl (jk_pR (jk_nl (jk_pR (jk_nl (jk_pR (jk_nl (jk_pR (jk_nl (jk_pR (jk_nl hN)))))))))))))) (by omega) ?_
  refine je_dup (pc := 64) d3000_64 rfl ?_
  refine ju_bud (bc' := 4 + 0) (bs' := 38 + 0) rfl rfl ?_
  refine je_calliN (pc := 65) (as := []) (mc := 4) (ms := 38) d3000_65 jL_3_35 jM_La_init rfl rfl (by exact Nat.le_of_ble_eq_true rfl) (t_La_init (d + 0) (a + 8) (jk_nN (jk_pR (jk_nl (jk_pR (jk_nl (jk_pR (jk_nl (jk_pR (jk_nl (jk_pR (jk_nl (jk_pR (jk_nl (jk_pR (jk_nl hN))))))))))))))) (jk_nl (jk_pR (jk_nl (jk_pR (jk_nl (jk_pR (jk_nl (jk_pR (jk_nl (jk_pR (jk_nl (jk_pR (jk_nl (jk_pR (jk_nl hN))))))))))))))) (by omega)) (fun r65 h65 q65 => ?_)
  obtain ⟨rfl, rfl⟩ := q65
  refine ju_putrF (pc := 68) d3000_68 jF_3_36 rfl rfl rfl rfl (mk_La_init_at (jk_nw (jk_qR (jk_nw (jk_qR (jk_nw (jk_qR (jk_nw (jk_qR (jk_nw (jk_qR (jk_nw (jk_qR (jk_nw (jk_qR (jk_nw hA)))))))))))))))) ?_
  refine je_ret (pc := 71) d3000_71 rfl ?_
  exact ⟨rfl, rfl⟩
def mk_Sr_init (h : jx_H) (tx : Nat) (a : Nat) : jx_H := (jx_wR (jx_wR (mk_St_init (jx_nw h (a + 1) (.inr (.inl 3))) (a + 1)) a 1 (some (a + 1))) a 0 (some tx))
theorem mk_Sr_init_S (h : jx_H) (tx : Nat) (a : Nat) : (mk_Sr_init h tx a).1 = h.1 ++ [.inr (.inl 3), .inl (1, 100), .inl (1, 8), .inl (1, 8), .inl (1, 8), .inl (1, 10), .inl (1, 8), .inl (1, 8), .inr (.inl 4), .inl (1, 10), .inl (1, 10), .inl (1, 10), .inl (1, 8)] := by simp [mk_Sr_init, jx_nw, jx_wR, jx_wI, mk_St_init_S]
theorem mk_Sr_init_len {h : jx_H} {tx : Nat} {a n : Nat} (hn : h.1.length = n) : (mk_Sr_init h tx a).1.length = n + 13 := by rw [mk_Sr_init_S, List.length_append, hn]; rfl
theorem mk_Sr_init_at {h : jx_H} {tx : Nat} {a b : Nat} {k0 : jx_K} (hb : h.1[b]? = some k0) : (mk_Sr_init h tx a).1[b]? = some k0 := by rw [mk_Sr_init_S, List.getElem?_append_left (List.getElem?_eq_some_iff.mp hb).1]; exact hb
set_option maxHeartbeats 2000000 in
theorem t_Sr_init (d : Nat) {h : jx_H} (tx : Nat) (a : Nat) (hA : h.1[a]? = some (.inr (.inl 2))) (hN : h.1.length = a + 1) (hlt : a < 780000) : jx_Tr (d + 4) 13 206 2000 [.ref a, .ref tx] h (fun r h' => r = none ∧ h' = mk_Sr_init h tx a) := by
  refine jx_tr jM_Sr_init rfl rfl (lv := [some (.ref a), some (.ref tx)]) rfl ?_
  refine je_aload0 (pc := 0) d2000_0 rfl ?_
  refine je_objInit (pc := 1) d2000_1 jLo_2_3 (by exact Nat.le_of_ble_eq_true rfl) ?_
  refine je_aload0 (pc := 4) d2000_4 rfl ?_
  refine ju_bud (bc' := 12 + 1) (bs' := 194 + 12) rfl rfl ?_
  refine ju_new (pc := 5) (n := (a + 1)) (N := 12) d2000_5 jC_2_9 rfl hN (by omega) ?_
  refine je_dup (pc := 8) d2000_8 rfl ?_
  refine ju_bud (bc' := 12 + 0) (bs' := 194 + 0) rfl rfl ?_
  refine je_calliN (pc := 9) (as := []) (mc := 12) (ms := 194) d2000_9 jL_2_11 jM_St_init rfl rfl (by exact Nat.le_of_ble_eq_true rfl) (t_St_init (d + 0) (a + 1) (jk_nN hN) (jk_nl hN) (by omega)) (fun r9 h9 q9 => ?_)
  obtain ⟨rfl, rfl⟩ := q9
  refine ju_putr (pc := 12) d2000_12 jF_2_12 rfl rfl (mk_St_init_at (jk_nw hA)) ?_
  refine je_aload0 (pc := 15) d2000_15 rfl ?_
  refine je_aload1 (pc := 16) d2000_16 rfl ?_
  refine ju_putrF (pc := 17) d2000_17 jF_2_18 rfl rfl rfl rfl (jk_qR (mk_St_init_at (jk_nw hA))) ?_
  refine je_ret (pc := 20) d2000_20 rfl ?_
  exact ⟨rfl, rfl⟩
def mk_Rr_init (h : jx_H) (tx : Nat) (a : Nat) : jx_H := (jx_wR (jx_wR (mk_Ru_init (jx_nw h (a + 1) (.inr (.inl 5))) (a + 1)) a 1 (some (a + 1))) a 0 (some tx))
theorem mk_Rr_init_S (h : jx_H) (tx : Nat) (a : Nat) : (mk_Rr_init h tx a).1 = h.1 ++ [.inr (.inl 5), .inl (1, 400), .inl (1, 12), .inl (1, 12), .inl (1, 12), .inl (2, 60)] := by simp [mk_Rr_init, jx_nw, jx_wR, jx_wI, mk_Ru_init_S]
theorem mk_Rr_init_len {h : jx_H} {tx : Nat} {a n : Nat} (hn : h.1.length = n) : (mk_Rr_init h tx a).1.length = n + 6 := by rw [mk_Rr_init_S, List.length_append, hn]; rfl
theorem mk_Rr_init_at {h : jx_H} {tx : Nat} {a b : Nat} {k0 : jx_K} (hb : h.1[b]? = some k0) : (mk_Rr_init h tx a).1[b]? = some k0 := by rw [mk_Rr_init_S, List.getElem?_append_left (List.getElem?_eq_some_iff.mp hb).1]; exact hb
set_option maxHeartbeats 2000000 in
theorem t_Rr_init (d : Nat) {h : jx_H} (tx : Nat) (a : Nat) (hA : h.1[a]? = some (.inr (.inl 6))) (hN : h.1.length = a + 1) (hlt : a < 780000) : jx_Tr (d + 3) 6 503 6000 [.ref a, .ref tx] h (fun r h' => r = none ∧ h' = mk_Rr_init h tx a) := by
  refine jx_tr jM_Rr_init rfl rfl (lv := [some (.ref a), some (.ref tx)]) rfl ?_
  refine je_aload0 (pc := 0) d6000_0 rfl ?_
  refine je_objInit (pc := 1) d6000_1 jLo_6_1 (by exact Nat.le_of_ble_eq_true rfl) ?_
  refine je_aload0 (pc := 4) d6000_4 rfl ?_
  refine ju_bud (bc' := 5 + 1) (bs' := 496 + 7) rfl rfl ?_
  refine ju_new (pc := 5) (n := (a + 1)) (N := 7) d6000_5 jC_6_7 rfl hN (by omega) ?_
  refine je_dup (pc := 8) d6000_8 rfl ?_
  refine ju_bud (bc' := 5 + 0) (bs' := 496 + 0) rfl rfl ?_
  refine je_calliN (pc := 9) (as := []) (mc := 5) (ms := 496) d6000_9 jL_6_9 jM_Ru_init rfl rfl (by exact Nat.le_of_ble_eq_true rfl) (t_Ru_init (d + 0) (a + 1) (jk_nN hN) (jk_nl hN) (by omega)) (fun r9 h9 q9 => ?_)
  obtain ⟨rfl, rfl⟩ := q9
  refine ju_putr (pc := 12) d6000_12 jF_6_10 rfl rfl (mk_Ru_init_at (jk_nw hA)) ?_
  refine je_aload0 (pc := 15) d6000_15 rfl ?_
  refine je_aload1 (pc := 16) d6000_16 rfl ?_
  refine ju_putrF (pc := 17) d6000_17 jF_6_16 rfl rfl rfl rfl (jk_qR (mk_Ru_init_at (jk_nw hA))) ?_
  refine je_ret (pc := 20) d6000_20 rfl ?_
  exact ⟨rfl, rfl⟩
def mk_Wo_init (h : jx_H) (a : Nat) : jx_H := (jx_wR (jx_nw (jx_wR (jx_nw (jx_wR (jx_nw (jx_wR (jx_nw (jx_wI (jx_wR (mk_La_init (jx_nw (jx_wR (mk_St_init (jx_nw h (a + 1) (.inr (.inl 3))) (a + 1)) a 0 (some (a + 1))) (a + 14) (.inr (.inl 4))) (a + 14)) a 1 (some (a + 14))) a 2 (-1)) (a + 19) (.inl (1, 10))) a 5 (some (a + 19))) (a + 20) (.inl (1, 10))) a 6 (some (a + 20))) (a + 21) (.inl (1, 10))) a 7 (some (a + 21))) (a + 22) (.inl (1, 800))) a 8 (some (a + 22)))
theorem mk_Wo_init_S (h : jx_H) (a : Nat) : (mk_Wo_init h a).1 = h.1 ++ [.inr (.inl 3), .inl (1, 100), .inl (1, 8), .inl (1, 8), .inl (1, 8), .inl (1, 10), .inl (1, 8), .inl (1, 8), .inr (.inl 4), .inl (1, 10), .inl (1, 10), .inl (1, 10), .inl (1, 8), .inr (.inl 4), .inl (1, 10), .inl (1, 10), .inl (1, 10), .inl (1, 8), .inl (1, 10), .inl (1, 10), .inl (1, 10), .inl (1, 800)] := by simp [mk_Wo_init, jx_nw, jx_wR, jx_wI, mk_La_init_S, mk_St_init_S]
theorem mk_Wo_init_len {h : jx_H} {a n : Nat} (hn : h.1.length = n) : (mk_Wo_init h a).1.length = n + 22 := by rw [mk_Wo_init_S, List.length_append, hn]; rfl
theorem mk_Wo_init_at {h : jx_H} {a b : Nat} {k0 : jx_K} (hb : h.1[b]? = some k0) : (mk_Wo_init h a).1[b]? = some k0 := by rw [mk_Wo_init_S, List.getElem?_append_left (List.getElem?_eq_some_iff.mp hb).1]; exact hb
set_option maxHeartbeats 2000000 in
theorem t_Wo_init (d : Nat) {h : jx_H} (a : Nat) (hA : h.1[a]? = some (.inr (.inl 7))) (hN : h.1.length = a + 1) (hlt : a < 780000) : jx_Tr (d + 4) 22 1080 7000 [.ref a] h (fun r h' => r = none ∧ h' = mk_Wo_init h a) := by
  refine jx_tr jM_Wo_init rfl rfl (lv := [some (.ref a)]) rfl ?_
  refine je_aload0 (pc := 0) d7000_0 rfl ?_
  refine je_objInit (pc := 1) d7000_1 jLo_7_3 (by exact Nat.le_of_ble_eq_true rfl) ?_
  refine je_aload0 (pc := 4) d7000_4 rfl ?_
  refine ju_bud (bc' := 21 + 1) (bs' := 1068 + 12) rfl rfl ?_
  refine ju_new (pc := 5) (n := (a + 1)) (N := 12) d7000_5 jC_7_9 rfl hN (by omega) ?_
  refine je_dup (pc := 8) d7000_8 rfl ?_
  refine ju_bud (bc' := 12 + 9) (bs' := 194 + 874) rfl rfl ?_
  refine je_calliN (pc := 9) (as := []) (mc := 12) (ms := 194) d7000_9 jL_7_11 jM_St_init rfl rfl (by exact Nat.le_of_ble_eq_true rfl) (t_St_init (d + 0) (a + 1) (jk_nN hN) (jk_nl hN) (by omega)) (fun r9 h9 q9 => ?_)
  obtain ⟨rfl, rfl⟩ := q9
  refine ju_putr (pc := 12) d7000_12 jF_7_12 rfl rfl (mk_St_init_at (jk_nw hA)) ?_
  refine je_aload0 (pc := 15) d7000_15 rfl ?_
  refine ju_bud (bc' := 8 + 1) (bs' := 868 + 6) rfl rfl ?_
  refine ju_new (pc := 16) (n := (a + 14)) (N := 6) d7000_16 jC_7_18 rfl (jk_pR (mk_St_init_len (jk_nl hN))) (by omega) ?_
  refine je_dup (pc := 19) d7000_19 rfl ?_
  refine ju_bud (bc' := 4 + 4) (bs' := 38 + 830) rfl rfl ?_
  refine je_calliN (pc := 20) (as := []) (mc := 4) (ms := 38) d7000_20 jL_7_20 jM_La_init rfl rfl (by exact Nat.le_of_ble_eq_true rfl) (t_La_init (d + 1) (a + 14) (jk_nN (jk_pR (mk_St_init_len (jk_nl hN)))) (jk_nl (jk_pR (mk_St_init_len (jk_nl hN)))) (by omega)) (fun r20 h20 q20 => ?_)
  obtain ⟨rfl, rfl⟩ := q20
  refine ju_putrF (pc := 23) d7000_23 jF_7_21 rfl rfl rfl rfl (mk_La_init_at (jk_nw (jk_qR (mk_St_init_at (jk_nw hA))))) ?_
  refine je_aload0 (pc := 26) d7000_26 rfl ?_
  refine je_iconst (pc := 27) (v := -1) d7000_27 rfl ?_
  refine ju_puti (pc := 28) d7000_28 jF_7_25 rfl (jk_qR (mk_La_init_at (jk_nw (jk_qR (mk_St_init_at (jk_nw hA)))))) ?_
  refine je_aload0 (pc := 31) d7000_31 rfl ?_
  refine je_bipush (pc := 32) (v := 10) d7000_32 rfl ?_
  refine ju_bud (bc' := 3 + 1) (bs' := 820 + 10) rfl rfl ?_
  refine ju_newa (pc := 34) (n := (a + 19)) (t := 1) (N := 10) d7000_34 jw_aint (by decide) (by decide) (by decide) (by decide) (jk_pI (jk_pR (mk_La_init_len (jk_nl (jk_pR (mk_St_init_len (jk_nl hN))))))) (by omega) ?_
  refine ju_putrF (pc := 36) d7000_36 jF_7_29 rfl rfl rfl rfl (jk_nw (jk_qI (jk_qR (mk_La_init_at (jk_nw (jk_qR (mk_St_init_at (jk_nw hA)))))))) ?_
  refine je_aload0 (pc := 39) d7000_39 rfl ?_
  refine je_bipush (pc := 40) (v := 10) d7000_40 rfl ?_
  refine ju_bud (bc' := 2 + 1) (bs' := 810 + 10) rfl rfl ?_
  refine ju_newa (pc := 42) (n := (a + 20)) (t := 1) (N := 10) d7000_42 jw_aint (by decide) (by decide) (by decide) (by decide) (jk_pR (jk_nl (jk_pI (jk_pR (mk_La_init_len (jk_nl (jk_pR (mk_St_init_len (jk_nl hN))))))))) (by omega) ?_
  refine ju_putrF (pc := 44) d7000_44 jF_7_33 rfl rfl rfl rfl (jk_nw (jk_qR (jk_nw (jk_qI (jk_qR (mk_La_init_at (jk_nw (jk_qR (mk_St_init_at (jk_nw hA)))))))))) ?_
  refine je_aload0 (pc := 47) d7000_47 rfl ?_
  refine je_bipush (pc := 48) (v := 10) d7000_48 rfl ?_
  refine ju_bud (bc' := 1 + 1) (bs' := 800 + 10) rfl rfl ?_
  refine ju_newa (pc := 50) (n := (a + 21)) (t := 1) (N := 10) d7000_50 jw_aint (by decide) (by decide) (by decide) (by decide) (jk_pR (jk_nl (jk_pR (jk_nl (jk_pI (jk_pR (mk_La_init_len (jk_nl (jk_pR (mk_St_init_len (jk_nl hN))))))))))) (by omega) ?_
  refine ju_putrF (pc := 52) d7000_52 jF_7_36 rfl rfl rfl rfl (jk_nw (jk_qR (jk_nw (jk_qR (jk_nw (jk_qI (jk_qR (mk_La_init_at (jk_nw (jk_qR (mk_St_init_at (jk_nw hA)))))))))))) ?_
  refine je_aload0 (pc := 55) d7000_55 rfl ?_
  refine je_sipush (pc := 56) (v := 800) d7000_56 rfl ?_
  refine ju_bud (bc' := 0 + 1) (bs' := 0 + 800) rfl rfl ?_
  refine ju_newa (pc := 59) (n := (a + 22)) (t := 1) (N := 800) d7000_59 jw_aint (by decide) (by decide) (by decide) (by decide) (jk_pR (jk_nl (jk_pR (jk_nl (jk_pR (jk_nl (jk_pI (jk_pR (mk_La_init_len (jk_nl (jk_pR (mk_St_init_len (jk_nl hN))))))))))))) (by omega) ?_
  refine ju_putrF (pc := 61) d7000_61 jF_7_39 rfl rfl rfl rfl (jk_nw (jk_qR (jk_nw (jk_qR (jk_nw (jk_qR (jk_nw (jk_qI (jk_qR (mk_La_init_at (jk_nw (jk_qR (mk_St_init_at (jk_nw hA)))))))))))))) ?_
  refine je_ret (pc := 64) d7000_64 rfl ?_
  exact ⟨rfl, rfl⟩
def mk_Lw_init (h : jx_H) (a : Nat) : jx_H := (jx_wR (jx_nw (jx_wR (jx_nw (jx_wR (mk_St_init (jx_nw h (a + 1) (.inr (.inl 3))) (a + 1)) a 0 (some (a + 1))) (a + 14) (.inl (1, 10))) a 2 (some (a + 14))) (a + 15) (.inl (2, 12))) a 3 (some (a + 15)))
theorem mk_Lw_init_S (h : jx_H) (a : Nat) : (mk_Lw_init h a).1 = h.1 ++ [.inr (.inl 3), .inl (1, 100), .inl (1, 8), .inl (1, 8), .inl (1, 8), .inl (1, 10), .inl (1, 8), .inl (1, 8), .inr (.inl 4), .inl (1, 10), .inl (1, 10), .inl (1, 10), .inl (1, 8), .inl (1, 10), .inl (2, 12)] := by simp [mk_Lw_init, jx_nw, jx_wR, jx_wI, mk_St_init_S]
theorem mk_Lw_init_len {h : jx_H} {a n : Nat} (hn : h.1.length = n) : (mk_Lw_init h a).1.length = n + 15 := by rw [mk_Lw_init_S, List.length_append, hn]; rfl
theorem mk_Lw_init_at {h : jx_H} {a b : Nat} {k0 : jx_K} (hb : h.1[b]? = some k0) : (mk_Lw_init h a).1[b]? = some k0 := by rw [mk_Lw_init_S, List.getElem?_append_left (List.getElem?_eq_some_iff.mp hb).1]; exact hb
set_option maxHeartbeats 2000000 in
theorem t_Lw_init (d : Nat) {h : jx_H} (a : Nat) (hA : h.1[a]? = some (.inr (.inl 8))) (hN : h.1.length = a + 1) (hlt : a < 780000) : jx_Tr (d + 4) 15 228 8000 [.ref a] h (fun r h' => r = none ∧ h' = mk_Lw_init h a) := by
  refine jx_tr jM_Lw_init rfl rfl (lv := [some (.ref a)]) rfl ?_
  refine je_aload0 (pc := 0) d8000_0 rfl ?_
  refine je_objInit (pc := 1) d8000_1 jLo_8_3 (by exact Nat.le_of_ble_eq_true rfl) ?_
  refine je_aload0 (pc := 4) d8000_4 rfl ?_
  refine ju_bud (bc' := 14 + 1) (bs' := 216 + 12) rfl rfl ?_
  refine ju_new (pc := 5) (n := (a + 1)) (N := 12) d8000_5 jC_8_9 rfl hN (by omega) ?_
  refine je_dup (pc := 8) d8000_8 rfl ?_
  refine ju_bud (bc' := 12 + 2) (bs' := 194 + 22) rfl rfl ?_
  refine je_calliN (pc := 9) (as := []) (mc := 12) (ms := 194) d8000_9 jL_8_11 jM_St_init rfl rfl (by exact Nat.le_of_ble_eq_true rfl) (t_St_init (d + 0) (a + 1) (jk_nN hN) (jk_nl hN) (by omega)) (fun r9 h9 q9 => ?_)
  obtain ⟨rfl, rfl⟩ := q9
  refine ju_putr (pc := 12) d8000_12 jF_8_12 rfl rfl (mk_St_init_at (jk_nw hA)) ?_
  refine je_aload0 (pc := 15) d8000_15 rfl ?_
  refine je_bipush (pc := 16) (v := 10) d8000_16 rfl ?_
  refine ju_bud (bc' := 1 + 1) (bs' := 12 + 10) rfl rfl ?_
  refine ju_newa (pc := 18) (n := (a + 14)) (t := 1) (N := 10) d8000_18 jw_aint (by decide) (by decide) (by decide) (by decide) (jk_pR (mk_St_init_len (jk_nl hN))) (by omega) ?_
  refine ju_putrF (pc := 20) d8000_20 jF_8_18 rfl rfl rfl rfl (jk_nw (jk_qR (mk_St_init_at (jk_nw hA)))) ?_
  refine je_aload0 (pc := 23) d8000_23 rfl ?_
  refine je_bipush (pc := 24) (v := 12) d8000_24 rfl ?_
  refine ju_bud (bc' := 0 + 1) (bs' := 0 + 12) rfl rfl ?_
  refine ju_newa (pc := 26) (n := (a + 15)) (t := 2) (N := 12) d8000_26 jw_along (by decide) (by decide) (by decide) (by decide) (jk_pR (jk_nl (jk_pR (mk_St_init_len (jk_nl hN))))) (by omega) ?_
  refine ju_putrF (pc := 28) d8000_28 jF_8_24 rfl rfl rfl rfl (jk_nw (jk_qR (jk_nw (jk_qR (mk_St_init_at (jk_nw hA)))))) ?_
  refine je_ret (pc := 31) d8000_31 rfl ?_
  exact ⟨rfl, rfl⟩
def mk_Ol_init (h : jx_H) (lw : Nat) (a : Nat) : jx_H := (jx_wR (jx_wR (jx_nw (jx_wR (mk_La_init (jx_nw (jx_wR (mk_La_init (jx_nw h (a + 1) (.inr (.inl 4))) (a + 1)) a 1 (some (a + 1))) (a + 6) (.inr (.inl 4))) (a + 6)) a 2 (some (a + 6))) (a + 11) (.inl (1, 110))) a 3 (some (a + 11))) a 0 (some lw))
theorem mk_Ol_init_S (h : jx_H) (lw : Nat) (a : Nat) : (mk_Ol_init h lw a).1 = h.1 ++ [.inr (.inl 4), .inl (1, 10), .inl (1, 10), .inl (1, 10), .inl (1, 8), .inr (.inl 4), .inl (1, 10), .inl (1, 10), .inl (1, 10), .inl (1, 8), .inl (1, 110)] := by simp [mk_Ol_init, jx_nw, jx_wR, jx_wI, mk_La_init_S]
theorem mk_Ol_init_len {h : jx_H} {lw : Nat} {a n : Nat} (hn : h.1.length = n) : (mk_Ol_init h lw a).1.length = n + 11 := by rw [mk_Ol_init_S, List.length_append, hn]; rfl
theorem mk_Ol_init_at {h : jx_H} {lw : Nat} {a b : Nat} {k0 : jx_K} (hb : h.1[b]? = some k0) : (mk_Ol_init h lw a).1[b]? = some k0 := by rw [mk_Ol_init_S, List.getElem?_append_left (List.getElem?_eq_some_iff.mp hb).1]; exact hb
set_option maxHeartbeats 2000000 in
theorem t_Ol_init (d : Nat) {h : jx_H} (lw : Nat) (a : Nat) (hA : h.1[a]? = some (.inr (.inl 9))) (hN : h.1.length = a + 1) (hlt : a < 780000) : jx_Tr (d + 3) 11 198 9000 [.ref a, .ref lw] h (fun r h' => r = none ∧ h' = mk_Ol_init h lw a) := by
  refine jx_tr jM_Ol_init rfl rfl (lv := [some (.ref a), some (.ref lw)]) rfl ?_
  refine je_aload0 (pc := 0) d9000_0 rfl ?_
  refine je_objInit (pc := 1) d9000_1 jLo_9_3 (by exact Nat.le_of_ble_eq_true rfl) ?_
  refine je_aload0 (pc := 4) d9000_4 rfl ?_
  refine ju_bud (bc' := 10 + 1) (bs' := 192 + 6) rfl rfl ?_
  refine ju_new (pc := 5) (n := (a + 1)) (N := 6) d9000_5 jC_9_9 rfl hN (by omega) ?_
  refine je_dup (pc := 8) d9000_8 rfl ?_
  refine ju_bud (bc' := 4 + 6) (bs' := 38 + 154) rfl rfl ?_
  refine je_calliN (pc := 9) (as := []) (mc := 4) (ms := 38) d9000_9 jL_9_11 jM_La_init rfl rfl (by exact Nat.le_of_ble_eq_true rfl) (t_La_init (d + 0) (a + 1) (jk_nN hN) (jk_nl hN) (by omega)) (fun r9 h9 q9 => ?_)
  obtain ⟨rfl, rfl⟩ := q9
  refine ju_putrF (pc := 12) d9000_12 jF_9_12 rfl rfl rfl rfl (mk_La_init_at (jk_nw hA)) ?_
  refine je_aload0 (pc := 15) d9000_15 rfl ?_
  refine ju_bud (bc' := 5 + 1) (bs' := 148 + 6) rfl rfl ?_
  refine ju_new (pc := 16) (n := (a + 6)) (N := 6) d9000_16 jC_9_9 rfl (jk_pR (mk_La_init_len (jk_nl hN))) (by omega) ?_
  refine je_dup (pc := 19) d9000_19 rfl ?_
  refine ju_bud (bc' := 4 + 1) (bs' := 38 + 110) rfl rfl ?_
  refine je_calliN (pc := 20) (as := []) (mc := 4) (ms := 38) d9000_20 jL_9_11 jM_La_init rfl rfl (by exact Nat.le_of_ble_eq_true rfl) (t_La_init (d + 0) (a + 6) (jk_nN (jk_pR (mk_La_init_len (jk_nl hN)))) (jk_nl (jk_pR (mk_La_init_len (jk_nl hN)))) (by omega)) (fun r20 h20 q20 => ?_)
  obtain ⟨rfl, rfl⟩ := q20
  refine ju_putrF (pc := 23) d9000_23 jF_9_18 rfl rfl rfl rfl (mk_La_init_at (jk_nw (jk_qR (mk_La_init_at (jk_nw hA))))) ?_
  refine je_aload0 (pc := 26) d9000_26 rfl ?_
  refine je_bipush (pc := 27) (v := 110) d9000_27 rfl ?_
  refine ju_bud (bc' := 0 + 1) (bs' := 0 + 110) rfl rfl ?_
  refine ju_newa (pc := 29) (n := (a + 11)) (t := 1) (N := 110) d9000_29 jw_aint (by decide) (by decide) (by decide) (by decide) (jk_pR (mk_La_init_len (jk_nl (jk_pR (mk_La_init_len (jk_nl hN)))))) (by omega) ?_
  refine ju_putrF (pc := 31) d9000_31 jF_9_21 rfl rfl rfl rfl (jk_nw (jk_qR (mk_La_init_at (jk_nw (jk_qR (mk_La_init_at (jk_nw hA))))))) ?_
  refine je_aload0 (pc := 34) d9000_34 rfl ?_
  refine je_aload1 (pc := 35) d9000_35 rfl ?_
  refine ju_putrF (pc := 36) d9000_36 jF_9_25 rfl rfl rfl rfl (jk_qR (jk_nw (jk_qR (mk_La_init_at (jk_nw (jk_qR (mk_La_init_at (jk_nw hA)))))))) ?_
  refine je_ret (pc := 39) d9000_39 rfl ?_
  exact ⟨rfl, rfl⟩
def mk_Th_init (h : jx_H) (a : Nat) : jx_H := (jx_wR (mk_St_init (jx_nw (jx_wR (jx_nw (jx_wR (jx_nw (jx_wR (jx_nw (jx_wR (jx_nw h (a + 1) (.inl (1, 310))) a 0 (some (a + 1))) (a + 2) (.inl (1, 300))) a 1 (some (a + 2))) (a + 3) (.inl (1, 300))) a 2 (some (a + 3))) (a + 4) (.inl (1, 100))) a 3 (some (a + 4))) (a + 5) (.inr (.inl 3))) (a + 5)) a 4 (some (a + 5)))
theorem mk_Th_init_S (h : jx_H) (a : Nat) : (mk_Th_init h a).1 = h.1 ++ [.inl (1, 310), .inl (1, 300), .inl (1, 300), .inl (1, 100), .inr (.inl 3), .inl (1, 100), .inl (1, 8), .inl (1, 8), .inl (1, 8), .inl (1, 10), .inl (1, 8), .inl (1, 8), .inr (.inl 4), .inl (1, 10), .inl (1, 10), .inl (1, 10), .inl (1, 8)] := by simp [mk_Th_init, jx_nw, jx_wR, jx_wI, mk_St_init_S]
theorem mk_Th_init_len {h : jx_H} {a n : Nat} (hn : h.1.length = n) : (mk_Th_init h a).1.length = n + 17 := by rw [mk_Th_init_S, List.length_append, hn]; rfl
theorem mk_Th_init_at {h : jx_H} {a b : Nat} {k0 : jx_K} (hb : h.1[b]? = some k0) : (mk_Th_init h a).1[b]? = some k0 := by rw [mk_Th_init_S, List.getElem?_append_left (List.getElem?_eq_some_iff.mp hb).1]; exact hb
set_option maxHeartbeats 2000000 in
theorem t_Th_init (d : Nat) {h : jx_H} (a : Nat) (hA : h.1[a]? = some (.inr (.inl 11))) (hN : h.1.length = a + 1) (hlt : a < 780000) : jx_Tr (d + 4) 17 1216 11000 [.ref a] h (fun r h' => r = none ∧ h' = mk_Th_init h a) := by
  refine jx_tr jM_Th_init rfl rfl (lv := [some (.ref a)]) rfl ?_
  refine je_aload0 (pc := 0) d11000_0 rfl ?_
  refine je_objInit (pc := 1) d11000_1 jLo_11_3 (by exact Nat.le_of_ble_eq_true rfl) ?_
  refine je_aload0 (pc := 4) d11000_4 rfl ?_
  refine je_sipush (pc := 5) (v := 310) d11000_5 rfl ?_
  refine ju_bud (bc' := 16 + 1) (bs' := 906 + 310) rfl rfl ?_
  refine ju_newa (pc := 8) (n := (a + 1)) (t := 1) (N := 310) d11000_8 jw_aint (by decide) (by decide) (by decide) (by decide) hN (by omega) ?_
  refine ju_putrF (pc := 10) d11000_10 jF_11_11 rfl rfl rfl rfl (jk_nw hA) ?_
  refine je_aload0 (pc := 13) d11000_13 rfl ?_
  refine je_sipush (pc := 14) (v := 300) d11000_14 rfl ?_
  refine ju_bud (bc' := 15 + 1) (bs' := 606 + 300) rfl rfl ?_
  refine ju_newa (pc := 17) (n := (a + 2)) (t := 1) (N := 300) d11000_17 jw_aint (by decide) (by decide) (by decide) (by decide) (jk_pR (jk_nl hN)) (by omega) ?_
  refine ju_putrF (pc := 19) d11000_19 jF_11_15 rfl rfl rfl rfl (jk_nw (jk_qR (jk_nw hA))) ?_
  refine je_aload0 (pc := 22) d11000_22 rfl ?_
  refine je_sipush (pc := 23) (v := 300) d11000_23 rfl ?_
  refine ju_bud (bc' := 14 + 1) (bs' := 306 + 300) rfl rfl ?_
  refine ju_newa (pc := 26) (n := (a + 3)) (t := 1) (N := 300) d11000_26 jw_aint (by decide) (by decide) (by decide) (by decide) (jk_pR (jk_nl (jk_pR (jk_nl hN)))) (by omega) ?_
  refine ju_putrF (pc := 28) d11000_28 jF_11_18 rfl rfl rfl rfl (jk_nw (jk_qR (jk_nw (jk_qR (jk_nw hA))))) ?_
  refine je_aload0 (pc := 31) d11000_31 rfl ?_
  refine je_bipush (pc := 32) (v := 100) d11000_32 rfl ?_
  refine ju_bud (bc' := 13 + 1) (bs' := 206 + 100) rfl rfl ?_
  refine ju_newa (pc := 34) (n := (a + 4)) (t := 1) (N := 100) d11000_34 jw_aint (by decide) (by decide) (by decide) (by decide) (jk_pR (jk_nl (jk_pR (jk_nl (jk_pR (jk_nl hN)))))) (by omega) ?_
  refine ju_putrF (pc := 36) d11000_36 jF_11_21 rfl rfl rfl rfl (jk_nw (jk_qR (jk_nw (jk_qR (jk_nw (jk_qR (jk_nw hA))))))) ?_
  refine je_aload0 (pc := 39) d11000_39 rfl ?_
  refine ju_bud (bc' := 12 + 1) (bs' := 194 + 12) rfl rfl ?_
  refine ju_new (pc := 40) (n := (a + 5)) (N := 12) d11000_40 jC_11_24 rfl (jk_pR (jk_nl (jk_pR (jk_nl (jk_pR (jk_nl (jk_pR (jk_nl hN)))))))) (by omega) ?_
  refine je_dup (pc := 43) d11000_43 rfl ?_
  refine ju_bud (bc' := 12 + 0) (bs' := 194 + 0) rfl rfl ?_
  refine je_calliN (pc := 44) (as := []) (mc := 12) (ms := 194) d11000_44 jL_11_26 jM_St_init rfl rfl (by exact Nat.le_of_ble_eq_true rfl) (t_St_init (d + 0) (a + 5) (jk_nN (jk_pR (jk_nl (jk_pR (jk_nl (jk_pR (jk_nl (jk_pR (jk_nl hN))))))))) (jk_nl (jk_pR (jk_nl (jk_pR (jk_nl (jk_pR (jk_nl (jk_pR (jk_nl hN))))))))) (by omega)) (fun r44 h44 q44 => ?_)
  obtain ⟨rfl, rfl⟩ := q44
  refine ju_putr (pc := 47) d11000_47 jF_11_27 rfl rfl (mk_St_init_at (jk_nw (jk_qR (jk_nw (jk_qR (jk_nw (jk_qR (jk_nw (jk_qR (jk_nw hA)))))))))) ?_
  refine je_ret (pc := 50) d11000_50 rfl ?_
  exact ⟨rfl, rfl⟩
