/-! words -/
/-- a word at b -/
abbrev stW (T : Nat → Int32) (N b : Nat) (w : List Int32) : Prop := (b < N ∧ isLt_ (T b) = true) ∧ tkE T N b - b = w.length ∧ ∀ k, k < w.length → T (b + k) = w.getD k 0
theorem dgx_lt {x : Int32} (h : isLt_ x = true) : ¬ isDg x = true := fun z => by
  have a := of_decide_eq_true h
  have b := of_decide_eq_true z
  rw [fa_lt, fa_lt] at a b
  have e1 : (97 : Int32).toInt = 97 := rfl
  have e2 : (57 : Int32).toInt = 57 := rfl
  rw [e1] at a
  rw [e2] at b
  omega
theorem tkS_257 {T : Nat → Int32} {N b : Nat} (hT : bytT T N) : tkS T N b = 257 ↔ (b < N ∧ isLt_ (T b) = true) := by
  unfold tkS
  constructor
  · intro h
    split at h
    · exact absurd h (by decide)
    · split at h
      · exact absurd h (by decide)
      · split at h
        · rename_i c1 c2 c3; exact ⟨by omega, c3⟩
        · split at h
          · split at h <;> exact absurd h (by decide)
          · have := hT b (by omega)
            rw [h] at this
            exact absurd this.2 (by decide)
  · intro h
    rw [if_neg (by omega), if_neg (dgx_lt h.2), if_pos h.2]
set_option maxHeartbeats 2000000 in
theorem t_Tx_isWord (d : Nat) {bc bs : Nat} {h : jx_H} {N b e : Nat} {q : Nat × Nat × String × List Int32} (hq : jx_strs[e]? = some (e, q)) (hl : q.2.2.2.length ≤ 100) (H : jx_St h) (A : txA h N b) (hN : N ≤ 400) (hb : b ≤ N) (hT : bytT (h.2.1 3) N) : jx_Tr (d + 5) bc bs 1007 [.ref 2, .ref (1000000 + e)] h (fun r h' => r = some (.int (b2 (stW (h.2.1 3) N b q.2.2.2))) ∧ h' = h) := by
  refine jx_tr jM_Tx_isWord rfl rfl (lv := [some (.ref 2), some (.ref (1000000 + e)), none, none]) rfl ?_
  have tn := tk_N (T := h.2.1 3) hb
  refine je_aload1 (pc := 0) d1007_0 rfl ?_
  refine je_callS (pc := 1) (as := []) d1007_1 jL_1_50 jM_Str_length rfl rfl hq rfl (Nat.le_of_ble_eq_true rfl) (t_Str_length (d + 2) hq) (fun r1 h1 q1 => ?_)
  obtain ⟨rfl, e1⟩ := q1
  obtain rfl := e1.symm
  refine ju_istore2 (pc := 4) (lv' := [some _, some _, some _, none]) d1007_4 rfl rfl ?_
  refine je_aload0 (pc := 5) d1007_5 rfl ?_
  refine ju_geti (pc := 6) d1007_6 jF_1_37 rfl (sK2 H) ?_
  refine ju_eqi (v := tkS (h.2.1 3) N b) A.2.2.2.1 ?_
  refine je_sipush (pc := 9) (v := 257) d1007_9 rfl ?_
  refine je_icne (pc := 12) 28 d1007_12 (by decide) (fun c12 => ?_) (fun c12 => ?_)
  · refine je_iconst (pc := 28) (v := 0) d1007_28 rfl ?_
    refine je_zret (pc := 29) d1007_29 rfl (Or.inl rfl) ?_
    exact ⟨by rw [b2_f (fun z => c12 ((tkS_257 hT).mpr z.1))], rfl⟩
  · refine je_aload0 (pc := 15) d1007_15 rfl ?_
    refine ju_geti (pc := 16) d1007_16 jF_1_19 rfl (sK2 H) ?_
    refine ju_eqi (v := nI (tkE (h.2.1 3) N b)) A.2.2.1 ?_
    refine je_aload0 (pc := 19) d1007_19 rfl ?_
    refine ju_geti (pc := 20) d1007_20 jF_1_28 rfl (sK2 H) ?_
    refine ju_eqi (v := nI b) A.2.1 ?_
    refine je_isub (pc := 23) d1007_23 ?_
    refine ju_eqi (v := nI ((tkE (h.2.1 3) N b) - (b))) (pk_sub (a := (tkE (h.2.1 3) N b)) (b := (b)) (by omega)) ?_
    refine je_iload2 (pc := 24) d1007_24 rfl ?_
    refine jn_iceq (pc := 25) (a := ((tkE (h.2.1 3) N b) - (b))) (b := (q.2.2.2.length)) 30 d1007_25 (by decide) (by omega) (by omega) (fun c25 => ?_) (fun c25 => ?_)
    · refine je_iconst (pc := 30) (v := 0) d1007_30 rfl ?_
      refine ju_istore3 (pc := 31) (lv' := [some _, some _, some _, some _]) d1007_31 rfl rfl ?_
      have cl := (tkS_257 hT).mp c12
      have cn := c25
      refine je_loop (σ := Unit) (q.2.2.2.length) (fun k xx => [some (.ref 2), some (.ref (1000000 + e)), some (.int (nI (q.2.2.2.length))), some (.int (nI k))]) (fun k _ h' => h' = h ∧ ∀ j, j < k → h.2.1 3 (b + j) = q.2.2.2.getD j 0) (fun k xx h' hk eJ kk => ?_) (fun xx h' eJ => ?_) (0) () h (by omega) ⟨rfl, fun j hj => absurd hj (Nat.not_lt_zero j)⟩
      · obtain ⟨e0, e1⟩ := eJ
        obtain rfl := e0.symm
        refine je_iload3 (pc := 32) d1007_32 rfl ?_
        refine je_iload2 (pc := 33) d1007_33 rfl ?_
        refine jn_icge (pc := 34) (a := (k)) (b := (q.2.2.2.length)) 64 d1007_34 (by decide) (by omega) (by omega) (fun c34 => by exfalso; omega) (fun c34 => ?_)
        refine je_aload0 (pc := 37) d1007_37 rfl ?_
        refine ju_getr (pc := 38) (b := 3) d1007_38 jF_1_9 rfl (sK2 H) (sR2_0 H) ?_
        refine je_aload0 (pc := 41) d1007_41 rfl ?_
        refine ju_geti (pc := 42) d1007_42 jF_1_28 rfl (sK2 H) ?_
        refine ju_eqi (v := nI b) A.2.1 ?_
        refine je_iload3 (pc := 45) d1007_45 rfl ?_
        refine je_iadd (pc := 46) d1007_46 ?_
        refine ju_eqi (v := nI ((b) + (k))) (nI_add (b) (k)) ?_
        refine ju_iald (pc := 47) (jn := ((b) + (k))) d1007_47 (sK3 H) (vp_in_nI (by omega) (by decide)) (nI_clamp (by omega)) ?_
        refine je_aload1 (pc := 48) d1007_48 rfl ?_
        refine je_iload3 (pc := 49) d1007_49 rfl ?_
        refine je_callS (pc := 50) (as := [_]) d1007_50 jL_1_56 jM_Str_charAt rfl rfl hq rfl (Nat.le_of_ble_eq_true rfl) (t_Str_charAt d hq (k := k) hk) (fun r50 h50 q50 => ?_)
        obtain ⟨rfl, e50⟩ := q50
        obtain rfl := e50.symm
        refine je_iceq (pc := 53) 58 d1007_53 (by decide) (fun c53 => ?_) (fun c53 => ?_)
        · refine ju_incN (pc := 58) (v := nI ((k) + 1)) (lv' := [some _, some _, some _, some _]) d1007_58 rfl (nI_1 (k)) rfl ?_
          refine je_goto (pc := 61) 32 d1007_61 (by decide) ?_
          refine kk () _ ⟨rfl, fun j hj => ?_⟩
          by_cases z : j = k
          · rw [z]; exact c53
          · exact e1 j (by omega)
        · refine je_iconst (pc := 56) (v := 0) d1007_56 rfl ?_
          refine je_zret (pc := 57) d1007_57 rfl (Or.inl rfl) ?_
          exact ⟨by rw [b2_f (fun z => c53 (z.2.2 k hk))], rfl⟩
      · obtain ⟨e0, e1⟩ := eJ
        obtain rfl := e0.symm
        refine je_iload3 (pc := 32) d1007_32 rfl ?_
        refine je_iload2 (pc := 33) d1007_33 rfl ?_
        refine jn_icge (pc := 34) (a := ((q.2.2.2.length))) (b := (q.2.2.2.length)) 64 d1007_34 (by decide) (by omega) (by omega) (fun c34 => ?_) (fun c34 => by exfalso; omega)
        refine je_iconst (pc := 64) (v := 1) d1007_64 rfl ?_
        refine je_zret (pc := 65) d1007_65 rfl (Or.inr rfl) ?_
        exact ⟨by rw [b2_t (show stW (h.2.1 3) N b q.2.2.2 from ⟨cl, cn, e1⟩)], rfl⟩
    · refine je_iconst (pc := 28) (v := 0) d1007_28 rfl ?_
      refine je_zret (pc := 29) d1007_29 rfl (Or.inl rfl) ?_
      exact ⟨by rw [b2_f (fun z => c25 z.2.1)], rfl⟩
