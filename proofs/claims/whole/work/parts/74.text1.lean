/-! signs of a text; the class -/
/-- ahead while c -/
def spF (c : Nat → Bool) (N p : Nat) : Nat := if p < N ∧ c p = true then spF c N (p + 1) else p
termination_by N - p
decreasing_by omega
theorem sp_go {c : Nat → Bool} {N p : Nat} (h : p < N) (q : c p = true) : spF c N p = spF c N (p + 1) := by rw [spF, if_pos ⟨h, q⟩]
theorem sp_st {c : Nat → Bool} {N p : Nat} (h : ¬ (p < N ∧ c p = true)) : spF c N p = p := by rw [spF, if_neg h]
theorem sp_sp {c : Nat → Bool} {N : Nat} : ∀ (t p : Nat), N - p ≤ t → p ≤ spF c N p ∧ (p ≤ N → spF c N p ≤ N) ∧ (∀ k, p + k < spF c N p → p + k < N ∧ c (p + k) = true) ∧ ¬ (spF c N p < N ∧ c (spF c N p) = true)
  | t, p, ht => by
    by_cases h : p < N ∧ c p = true
    · match t, ht with
      | 0, ht => omega
      | t + 1, ht =>
        have ih := sp_sp (c := c) (N := N) t (p + 1) (by omega)
        rw [sp_go h.1 h.2]
        refine ⟨by omega, fun _ => ih.2.1 (by omega), fun k hk => ?_, ih.2.2.2⟩
        match k, hk with
        | 0, _ => exact h
        | k + 1, hk =>
          have := ih.2.2.1 k (by omega)
          rw [show p + (k + 1) = p + 1 + k by omega]
          exact this
    · rw [sp_st h]
      exact ⟨Nat.le_refl _, fun z => z, fun k hk => by omega, h⟩
theorem sp_le {c : Nat → Bool} {N p : Nat} : p ≤ spF c N p := (sp_sp _ p (Nat.le_refl _)).1
theorem sp_N {c : Nat → Bool} {N p : Nat} (h : p ≤ N) : spF c N p ≤ N := (sp_sp _ p (Nat.le_refl _)).2.1 h
theorem sp_in {c : Nat → Bool} {N p k : Nat} (h : p + k < spF c N p) : p + k < N ∧ c (p + k) = true := (sp_sp _ p (Nat.le_refl _)).2.2.1 k h
theorem sp_out {c : Nat → Bool} {N p : Nat} : ¬ (spF c N p < N ∧ c (spF c N p) = true) := (sp_sp _ p (Nat.le_refl _)).2.2.2
abbrev isDg (x : Int32) : Bool := decide (¬ x < 48 ∧ ¬ 57 < x)
abbrev isLt_ (x : Int32) : Bool := decide (¬ x < 97 ∧ ¬ 122 < x)
def skB (T : Nat → Int32) (N p : Nat) : Nat := spF (fun j => decide (T j = 32)) N p
def jnB (T : Nat → Int32) (N b : Nat) : Bool := decide ((T b = 60 ∨ T b = 62) ∧ b + 1 < N ∧ T (b + 1) = 61)
/-- a sign's end -/
def tkE (T : Nat → Int32) (N b : Nat) : Nat := if N ≤ b then N else if isDg (T b) = true then spF (fun j => isDg (T j)) N (b + 1) else if isLt_ (T b) = true then spF (fun j => isLt_ (T j)) N (b + 1) else if jnB T N b = true then b + 2 else b + 1
def tkS (T : Nat → Int32) (N b : Nat) : Int32 := if N ≤ b then -1 else if isDg (T b) = true then 256 else if isLt_ (T b) = true then 257 else if jnB T N b = true then (if T b = 60 then 258 else 259) else T b
theorem tk_N {T : Nat → Int32} {N b : Nat} (h : b ≤ N) : b ≤ tkE T N b ∧ tkE T N b ≤ N := by
  unfold tkE
  split
  · omega
  · split
    · exact ⟨Nat.le_trans (by omega) sp_le, sp_N (by omega)⟩
    · split
      · exact ⟨Nat.le_trans (by omega) sp_le, sp_N (by omega)⟩
      · split
        · rename_i c; have := of_decide_eq_true c; omega
        · omega
/-- the sign at b -/
def txA (h : jx_H) (N b : Nat) : Prop := h.2.1 2 1 = nI N ∧ h.2.1 2 3 = nI b ∧ h.2.1 2 4 = nI (tkE (h.2.1 3) N b) ∧ h.2.1 2 2 = tkS (h.2.1 3) N b ∧ h.2.1 2 5 = 0
set_option maxHeartbeats 2000000 in
theorem t_Tx_isDigit (d : Nat) {bc bs : Nat} {h : jx_H} (x : Int32) : jx_Tr (d + 1) bc bs 1004 [.int x] h (fun r h' => r = some (.int (b2 (isDg x = true))) ∧ h' = h) := by
  refine jx_tr jM_Tx_isDigit rfl rfl (lv := [some (.int x)]) rfl ?_
  refine je_iload0 (pc := 0) d1004_0 rfl ?_
  refine je_bipush (pc := 1) (v := 48) d1004_1 rfl ?_
  refine ju_tern2 (pc := 3) (V := b2 (isDg x = true)) 17 ?_ (fun jn3 => ?_)
  · refine je_zret (pc := 17) d1004_17 rfl (b2_01 _) ?_
    exact ⟨rfl, rfl⟩
  · refine je_iclt (pc := 3) 16 d1004_3 (by decide) (fun c3 => ?_) (fun c3 => ?_)
    · refine je_iconst (pc := 16) (v := 0) d1004_16 rfl ?_
      refine ju_eqi (v := b2 (isDg x = true)) (b2_f (fun q => (of_decide_eq_true q).1 c3)).symm ?_
      exact jn3
    · refine je_iload0 (pc := 6) d1004_6 rfl ?_
      refine je_bipush (pc := 7) (v := 57) d1004_7 rfl ?_
      refine je_icgt (pc := 9) 16 d1004_9 (by decide) (fun c9 => ?_) (fun c9 => ?_)
      · refine je_iconst (pc := 16) (v := 0) d1004_16 rfl ?_
        refine ju_eqi (v := b2 (isDg x = true)) (b2_f (fun q => (of_decide_eq_true q).2 c9)).symm ?_
        exact jn3
      · refine je_iconst (pc := 12) (v := 1) d1004_12 rfl ?_
        refine je_goto (pc := 13) 17 d1004_13 (by decide) ?_
        refine ju_eqi (v := b2 (isDg x = true)) (b2_t (decide_eq_true ⟨c3, c9⟩)).symm ?_
        exact jn3
set_option maxHeartbeats 2000000 in
theorem t_Tx_isLetter (d : Nat) {bc bs : Nat} {h : jx_H} (x : Int32) : jx_Tr (d + 1) bc bs 1005 [.int x] h (fun r h' => r = some (.int (b2 (isLt_ x = true))) ∧ h' = h) := by
  refine jx_tr jM_Tx_isLetter rfl rfl (lv := [some (.int x)]) rfl ?_
  refine je_iload0 (pc := 0) d1005_0 rfl ?_
  refine je_bipush (pc := 1) (v := 97) d1005_1 rfl ?_
  refine ju_tern2 (pc := 3) (V := b2 (isLt_ x = true)) 17 ?_ (fun jn3 => ?_)
  · refine je_zret (pc := 17) d1005_17 rfl (b2_01 _) ?_
    exact ⟨rfl, rfl⟩
  · refine je_iclt (pc := 3) 16 d1005_3 (by decide) (fun c3 => ?_) (fun c3 => ?_)
    · refine je_iconst (pc := 16) (v := 0) d1005_16 rfl ?_
      refine ju_eqi (v := b2 (isLt_ x = true)) (b2_f (fun q => (of_decide_eq_true q).1 c3)).symm ?_
      exact jn3
    · refine je_iload0 (pc := 6) d1005_6 rfl ?_
      refine je_bipush (pc := 7) (v := 122) d1005_7 rfl ?_
      refine je_icgt (pc := 9) 16 d1005_9 (by decide) (fun c9 => ?_) (fun c9 => ?_)
      · refine je_iconst (pc := 16) (v := 0) d1005_16 rfl ?_
        refine ju_eqi (v := b2 (isLt_ x = true)) (b2_f (fun q => (of_decide_eq_true q).2 c9)).symm ?_
        exact jn3
      · refine je_iconst (pc := 12) (v := 1) d1005_12 rfl ?_
        refine je_goto (pc := 13) 17 d1005_13 (by decide) ?_
        refine ju_eqi (v := b2 (isLt_ x = true)) (b2_t (decide_eq_true ⟨c3, c9⟩)).symm ?_
        exact jn3
set_option maxHeartbeats 2000000 in
theorem t_Tx_joinEqual (d : Nat) {bc bs : Nat} {h : jx_H} {N e : Nat} (H : jx_St h) (hs : h.2.1 2 1 = nI N) (he : h.2.1 2 4 = nI e) (hN : N ≤ 400)  (heN : e ≤ N) : jx_Tr (d + 1) bc bs 1006 [.ref 2] h (fun r h' => r = none ∧ h' = if (h.2.1 2 2 = 60 ∨ h.2.1 2 2 = 62) ∧ e < N ∧ h.2.1 3 e = 61 then jx_wI (jx_wI h 2 2 (if h.2.1 2 2 = 60 then 258 else 259)) 2 4 (nI (e + 1)) else h) := by
  refine jx_tr jM_Tx_joinEqual rfl rfl (lv := [some (.ref 2), none]) rfl ?_
  refine je_aload0 (pc := 0) d1006_0 rfl ?_
  refine ju_geti (pc := 1) d1006_1 jF_1_37 rfl (sK2 H) ?_
  refine je_bipush (pc := 4) (v := 60) d1006_4 rfl ?_
  refine ju_tern2 (pc := 6) (V := b2 (h.2.1 2 2 = 60 ∨ h.2.1 2 2 = 62)) 23 ?_ (fun jn6 => ?_)
  · refine ju_istore1 (pc := 23) (lv' := [some _, some _]) d1006_23 rfl rfl ?_
    refine je_iload1 (pc := 24) d1006_24 rfl ?_
    refine jb_ifeq (pc := 25) 85 d1006_25 (by decide) (fun c25 => ?_) (fun c25 => ?_)
    · refine je_ret (pc := 85) d1006_85 rfl ?_
      exact ⟨rfl, by rw [if_neg (fun z => c25 z.1)]⟩
    · refine je_aload0 (pc := 28) d1006_28 rfl ?_
      refine ju_geti (pc := 29) d1006_29 jF_1_19 rfl (sK2 H) ?_
      refine ju_eqi (v := nI e) he ?_
      refine je_aload0 (pc := 32) d1006_32 rfl ?_
      refine ju_geti (pc := 33) d1006_33 jF_1_15 rfl (sK2 H) ?_
      refine ju_eqi (v := nI N) hs ?_
      refine jn_icge (pc := 36) (a := (e)) (b := (N)) 85 d1006_36 (by decide) (by omega) (by omega) (fun c36 => ?_) (fun c36 => ?_)
      · refine je_ret (pc := 85) d1006_85 rfl ?_
        exact ⟨rfl, by rw [if_neg (fun z => absurd z.2.1 (by omega))]⟩
      · refine je_aload0 (pc := 39) d1006_39 rfl ?_
        refine ju_getr (pc := 40) (b := 3) d1006_40 jF_1_9 rfl (sK2 H) (sR2_0 H) ?_
        refine je_aload0 (pc := 43) d1006_43 rfl ?_
        refine ju_geti (pc := 44) d1006_44 jF_1_19 rfl (sK2 H) ?_
        refine ju_eqi (v := nI e) he ?_
        refine ju_iald (pc := 47) (jn := (e)) d1006_47 (sK3 H) (vp_in_nI (by omega) (by decide)) (nI_clamp (by omega)) ?_
        refine je_bipush (pc := 48) (v := 61) d1006_48 rfl ?_
        refine je_icne (pc := 50) 85 d1006_50 (by decide) (fun c50 => ?_) (fun c50 => ?_)
        · refine je_ret (pc := 85) d1006_85 rfl ?_
          exact ⟨rfl, by rw [if_neg (fun z => c50 z.2.2)]⟩
        · refine je_aload0 (pc := 53) d1006_53 rfl ?_
          refine je_aload0 (pc := 54) d1006_54 rfl ?_
          refine ju_geti (pc := 55) d1006_55 jF_1_37 rfl (sK2 H) ?_
          refine je_bipush (pc := 58) (v := 60) d1006_58 rfl ?_
          refine ju_tern2 (pc := 60) (V := (if h.2.1 2 2 = 60 then 258 else 259)) 72 ?_ (fun jn60 => ?_)
          · refine ju_puti (pc := 72) d1006_72 jF_1_37 rfl (sK2 H) ?_
            refine je_aload0 (pc := 75) d1006_75 rfl ?_
            refine je_dup (pc := 76) d1006_76 rfl ?_
            refine ju_geti (pc := 77) d1006_77 jF_1_19 rfl (sK2 H.wI) ?_
            refine ju_eqi (v := nI e) (by rw [wI_at, jx_up_ne _ _ (by decide)]; exact he) ?_
            refine je_iconst (pc := 80) (v := 1) d1006_80 rfl ?_
            refine je_iadd (pc := 81) d1006_81 ?_
            refine ju_eqi (v := nI ((e) + 1)) (nI_add (e) 1) ?_
            refine ju_puti (pc := 82) d1006_82 jF_1_19 rfl (sK2 H.wI) ?_
            refine je_ret (pc := 85) d1006_85 rfl ?_
            exact ⟨rfl, (if_pos ⟨c25, by omega, c50⟩).symm⟩
          · refine je_icne (pc := 60) 69 d1006_60 (by decide) (fun c60 => ?_) (fun c60 => ?_)
            · refine je_sipush (pc := 69) (v := 259) d1006_69 rfl ?_
              refine ju_eqi (v := (if h.2.1 2 2 = 60 then 258 else 259)) (by rw [if_neg c60]) ?_
              exact jn60
            · refine je_sipush (pc := 63) (v := 258) d1006_63 rfl ?_
              refine je_goto (pc := 66) 72 d1006_66 (by decide) ?_
              refine ju_eqi (v := (if h.2.1 2 2 = 60 then 258 else 259)) (by rw [if_pos c60]) ?_
              exact jn60
  · refine je_iceq (pc := 6) 18 d1006_6 (by decide) (fun c6 => ?_) (fun c6 => ?_)
    · refine je_iconst (pc := 18) (v := 1) d1006_18 rfl ?_
      refine je_goto (pc := 19) 23 d1006_19 (by decide) ?_
      refine ju_eqi (v := b2 (h.2.1 2 2 = 60 ∨ h.2.1 2 2 = 62)) (b2_t (Or.inl c6)).symm ?_
      exact jn6
    · refine je_aload0 (pc := 9) d1006_9 rfl ?_
      refine ju_geti (pc := 10) d1006_10 jF_1_37 rfl (sK2 H) ?_
      refine je_bipush (pc := 13) (v := 62) d1006_13 rfl ?_
      refine je_icne (pc := 15) 22 d1006_15 (by decide) (fun c15 => ?_) (fun c15 => ?_)
      · refine je_iconst (pc := 22) (v := 0) d1006_22 rfl ?_
        refine ju_eqi (v := b2 (h.2.1 2 2 = 60 ∨ h.2.1 2 2 = 62)) (b2_f (fun z => z.elim c6 c15)).symm ?_
        exact jn6
      · refine je_iconst (pc := 18) (v := 1) d1006_18 rfl ?_
        refine je_goto (pc := 19) 23 d1006_19 (by decide) ?_
        refine ju_eqi (v := b2 (h.2.1 2 2 = 60 ∨ h.2.1 2 2 = 62)) (b2_t (Or.inr c15)).symm ?_
        exact jn6
theorem mn_e {b N : Nat} (hb : b ≤ N) (hN : N ≤ 400) : (if nI N < nI (b + 1) then nI N else nI (b + 1)) = nI (if b < N then b + 1 else N) := by
  by_cases z : b < N
  · rw [if_pos z, if_neg (nI_nlt (by omega) (by omega))]
  · rw [if_neg z, if_pos (nI_lt (by omega) (by omega))]
set_option maxHeartbeats 8000000 in
theorem t_Tx_advance (d : Nat) {bc bs : Nat} {h : jx_H} {N u : Nat} (H : jx_St h) (hs : h.2.1 2 1 = nI N) (hu : h.2.1 2 4 = nI u) (hN : N ≤ 400) (huN : u ≤ N) (f0 : h.2.1 2 5 = 0) : jx_Tr (d + 3) bc bs 1003 [.ref 2] h (fun r h' => r = none ∧ fC (fun b => b = 2) h h' ∧ (∀ j, j ≠ 2 → j ≠ 3 → j ≠ 4 → h'.2.1 2 j = h.2.1 2 j) ∧ txA h' N (skB (h.2.1 3) N u)) := by
  refine jx_tr jM_Tx_advance rfl rfl (lv := [some (.ref 2)]) rfl ?_
  refine je_aload0 (pc := 0) d1003_0 rfl ?_
  refine ju_geti (pc := 1) d1003_1 jF_1_22 rfl (sK2 H) ?_
  refine ju_eqi (v := 0) f0 ?_
  refine je_ifeq (pc := 4) 8 d1003_4 (by decide) (fun c4 => ?_) (fun c4 => absurd c4 (fun z => z rfl))
  refine je_aload0 (pc := 8) d1003_8 rfl ?_
  refine je_aload0 (pc := 9) d1003_9 rfl ?_
  refine ju_geti (pc := 10) d1003_10 jF_1_19 rfl (sK2 H) ?_
  refine ju_eqi (v := nI u) hu ?_
  refine ju_puti (pc := 13) d1003_13 jF_1_28 rfl (sK2 H) ?_
  refine je_loop (σ := Unit) (spF (fun j => decide (h.2.1 3 j = 32)) N u - u) (fun k xx => [some (.ref 2)]) (fun k _ h' => fC (fun b => b = 2) h h' ∧ (∀ j, j ≠ 2 → j ≠ 3 → j ≠ 4 → h'.2.1 2 j = h.2.1 2 j) ∧ h'.2.1 2 3 = nI (u + k)) (fun k xx h' hk e kk => ?_) (fun xx h' e => ?_) (0) () _ (by omega) ⟨fC.rf.wI rfl, fun j a1 a2 a3 => by rw [wI_at, jx_up_ne _ _ a2], by rw [wI_at, jx_up_self]; rfl⟩
  · obtain ⟨x1, x2, x3⟩ := e
    have H1 := x1.St H
    have sz : h'.2.1 2 1 = nI N := (x2 1 (by decide) (by decide) (by decide)).trans hs
    have si := sp_in (c := (fun j => decide (h.2.1 3 j = 32))) (N := N) (p := u) (k := k) (by omega)
    refine je_aload0 (pc := 16) d1003_16 rfl ?_
    refine ju_geti (pc := 17) d1003_17 jF_1_28 rfl (sK2 H1) ?_
    refine ju_eqi (v := nI (u + k)) x3 ?_
    refine je_aload0 (pc := 20) d1003_20 rfl ?_
    refine ju_geti (pc := 21) d1003_21 jF_1_15 rfl (sK2 H1) ?_
    refine ju_eqi (v := nI N) sz ?_
    refine jn_icge (pc := 24) (a := (u + k)) (b := (N)) 54 d1003_24 (by decide) (by omega) (by omega) (fun c24 => by exfalso; omega) (fun c24 => ?_)
    refine je_aload0 (pc := 27) d1003_27 rfl ?_
    refine ju_getr (pc := 28) (b := 3) d1003_28 jF_1_9 rfl (sK2 H1) (sR2_0 H1) ?_
    refine je_aload0 (pc := 31) d1003_31 rfl ?_
    refine ju_geti (pc := 32) d1003_32 jF_1_28 rfl (sK2 H1) ?_
    refine ju_eqi (v := nI (u + k)) x3 ?_
    refine ju_iald (pc := 35) (jn := (u + k)) d1003_35 (sK3 H1) (vp_in_nI (by omega) (by decide)) (nI_clamp (by omega)) ?_
    refine je_bipush (pc := 36) (v := 32) d1003_36 rfl ?_
    refine je_icne (pc := 38) 54 d1003_38 (by decide) (fun c38 => absurd c38 (fun z => z (by rw [x1.2 3 (by decide)]; exact of_decide_eq_true si.2))) (fun c38 => ?_)
    refine je_aload0 (pc := 41) d1003_41 rfl ?_
    refine je_dup (pc := 42) d1003_42 rfl ?_
    refine ju_geti (pc := 43) d1003_43 jF_1_28 rfl (sK2 H1) ?_
    refine ju_eqi (v := nI (u + k)) x3 ?_
    refine je_iconst (pc := 46) (v := 1) d1003_46 rfl ?_
    refine je_iadd (pc := 47) d1003_47 ?_
    refine ju_eqi (v := nI ((u + k) + 1)) (nI_add (u + k) 1) ?_
    refine ju_puti (pc := 48) d1003_48 jF_1_28 rfl (sK2 H1) ?_
    refine je_goto (pc := 51) 16 d1003_51 (by decide) ?_
    refine kk () _ ⟨x1.wI rfl, fun j a1 a2 a3 => by rw [wI_at, jx_up_ne _ _ a2]; exact x2 j a1 a2 a3, by rw [wI_at, jx_up_self]; rfl⟩
  · obtain ⟨x1, x2, x3⟩ := e
    have H1 := x1.St H
    have sz : h'.2.1 2 1 = nI N := (x2 1 (by decide) (by decide) (by decide)).trans hs
    have so := sp_out (c := (fun j => decide (h.2.1 3 j = 32))) (N := N) (p := u)
    have sl := sp_le (c := (fun j => decide (h.2.1 3 j = 32))) (N := N) (p := u)
    have sn := sp_N (c := (fun j => decide (h.2.1 3 j = 32))) (N := N) (p := u) (by omega)
    rw [show u + (spF (fun j => decide (h.2.1 3 j = 32)) N u - u) = spF (fun j => decide (h.2.1 3 j = 32)) N u by omega] at x3
    unfold skB
    generalize spF (fun j => decide (h.2.1 3 j = 32)) N u = b at x3 sl sn so ⊢
    refine je_aload0 (pc := 16) d1003_16 rfl ?_
    refine ju_geti (pc := 17) d1003_17 jF_1_28 rfl (sK2 H1) ?_
    refine ju_eqi (v := nI b) x3 ?_
    refine je_aload0 (pc := 20) d1003_20 rfl ?_
    refine ju_geti (pc := 21) d1003_21 jF_1_15 rfl (sK2 H1) ?_
    refine ju_eqi (v := nI N) sz ?_
    refine jn_icge (pc := 24) (a := (b)) (b := (N)) 54 d1003_24 (by decide) (by omega) (by omega) (fun c24 => ?_) (fun c24 => ?_)
    · refine je_aload0 (pc := 54) d1003_54 rfl ?_
      refine je_aload0 (pc := 55) d1003_55 rfl ?_
      refine ju_geti (pc := 56) d1003_56 jF_1_28 rfl (sK2 H1) ?_
      refine ju_eqi (v := nI b) x3 ?_
      refine je_iconst (pc := 59) (v := 1) d1003_59 rfl ?_
      refine je_iadd (pc := 60) d1003_60 ?_
      refine ju_eqi (v := nI ((b) + 1)) (nI_add (b) 1) ?_
      refine je_aload0 (pc := 61) d1003_61 rfl ?_
      refine ju_geti (pc := 62) d1003_62 jF_1_15 rfl (sK2 H1) ?_
      refine ju_eqi (v := nI N) sz ?_
      refine je_mmin (pc := 65) d1003_65 jLm_1_31 (by exact Nat.le_of_ble_eq_true rfl) ?_
      refine ju_eqi (v := nI (if b < N then b + 1 else N)) (mn_e (by omega) (by omega)) ?_
      refine ju_puti (pc := 68) d1003_68 jF_1_19 rfl (sK2 H1) ?_
      refine je_aload0 (pc := 71) d1003_71 rfl ?_
      refine ju_geti (pc := 72) d1003_72 jF_1_28 rfl (sK2 H1.wI) ?_
      refine ju_eqi (v := nI b) (by rw [wI_at, jx_up_ne _ _ (by decide)]; exact x3) ?_
      refine je_aload0 (pc := 75) d1003_75 rfl ?_
      refine ju_geti (pc := 76) d1003_76 jF_1_15 rfl (sK2 H1.wI) ?_
      refine ju_eqi (v := nI N) (by rw [wI_at, jx_up_ne _ _ (by decide)]; exact sz) ?_
      refine jn_iclt (pc := 79) (a := (b)) (b := (N)) 90 d1003_79 (by decide) (by omega) (by omega) (fun c79 => ?_) (fun c79 => ?_)
      · refine je_aload0 (pc := 90) d1003_90 rfl ?_
        refine ju_getr (pc := 91) (b := 3) d1003_91 jF_1_9 rfl (sK2 H1.wI) (sR2_0 H1.wI) ?_
        refine je_aload0 (pc := 94) d1003_94 rfl ?_
        refine ju_geti (pc := 95) d1003_95 jF_1_28 rfl (sK2 H1.wI) ?_
        refine ju_eqi (v := nI b) (by rw [wI_at, jx_up_ne _ _ (by decide)]; exact x3) ?_
        refine ju_iald (pc := 98) (jn := (b)) d1003_98 (sK3 H1.wI) (vp_in_nI (by omega) (by decide)) (nI_clamp (by omega)) ?_
        refine ju_eqi (v := h.2.1 3 b) (by rw [wI_ne _ _ _ (by decide), x1.2 3 (by decide)]) ?_
        refine ju_calls (pc := 99) (as := [_]) d1003_99 jL_1_40 jM_Tx_isDigit rfl rfl (by exact Nat.le_of_ble_eq_true rfl) (t_Tx_isDigit (d + 1) _) (fun r99 h99 q99 => ?_)
        obtain ⟨rfl, e99⟩ := q99
        obtain rfl := e99.symm
        refine jb_ifeq (pc := 102) 151 d1003_102 (by decide) (fun c102 => ?_) (fun c102 => ?_)
        · refine je_aload0 (pc := 151) d1003_151 rfl ?_
          refine ju_getr (pc := 152) (b := 3) d1003_152 jF_1_9 rfl (sK2 H1.wI) (sR2_0 H1.wI) ?_
          refine je_aload0 (pc := 155) d1003_155 rfl ?_
          refine ju_geti (pc := 156) d1003_156 jF_1_28 rfl (sK2 H1.wI) ?_
          refine ju_eqi (v := nI b) (by rw [wI_at, jx_up_ne _ _ (by decide)]; exact x3) ?_
          refine ju_iald (pc := 159) (jn := (b)) d1003_159 (sK3 H1.wI) (vp_in_nI (by omega) (by decide)) (nI_clamp (by omega)) ?_
          refine ju_eqi (v := h.2.1 3 b) (by rw [wI_ne _ _ _ (by decide), x1.2 3 (by decide)]) ?_
          refine ju_calls (pc := 160) (as := [_]) d1003_160 jL_1_44 jM_Tx_isLetter rfl rfl (by exact Nat.le_of_ble_eq_true rfl) (t_Tx_isLetter (d + 1) _) (fun r160 h160 q160 => ?_)
          obtain ⟨rfl, e160⟩ := q160
          obtain rfl := e160.symm
          refine jb_ifeq (pc := 163) 212 d1003_163 (by decide) (fun c163 => ?_) (fun c163 => ?_)
          · refine je_aload0 (pc := 212) d1003_212 rfl ?_
            refine je_aload0 (pc := 213) d1003_213 rfl ?_
            refine ju_getr (pc := 214) (b := 3) d1003_214 jF_1_9 rfl (sK2 H1.wI) (sR2_0 H1.wI) ?_
            refine je_aload0 (pc := 217) d1003_217 rfl ?_
            refine ju_geti (pc := 218) d1003_218 jF_1_28 rfl (sK2 H1.wI) ?_
            refine ju_eqi (v := nI b) (by rw [wI_at, jx_up_ne _ _ (by decide)]; exact x3) ?_
            refine ju_iald (pc := 221) (jn := (b)) d1003_221 (sK3 H1.wI) (vp_in_nI (by omega) (by decide)) (nI_clamp (by omega)) ?_
            refine ju_eqi (v := h.2.1 3 b) (by rw [wI_ne _ _ _ (by decide), x1.2 3 (by decide)]) ?_
            refine ju_puti (pc := 222) d1003_222 jF_1_37 rfl (sK2 H1.wI) ?_
            refine je_aload0 (pc := 225) d1003_225 rfl ?_
            refine ju_callv (pc := 226) (as := []) d1003_226 jL_1_47 jM_Tx_joinEqual rfl (by decide) (sK2 H1.wI.wI) rfl (by exact Nat.le_of_ble_eq_true rfl) (t_Tx_joinEqual (d + 1) (N := N) (e := b + 1) H1.wI.wI (by rw [wI_at, jx_up_ne _ _ (by decide), wI_at, jx_up_ne _ _ (by decide)]; exact sz) (by rw [wI_at, jx_up_ne _ _ (by decide), wI_at, jx_up_self, if_pos (show b < N by omega)]) (by omega) (by omega)) (fun r226 h226 q226 => ?_)
            obtain ⟨rfl, ej⟩ := q226
            refine je_ret (pc := 229) d1003_229 rfl ?_
            have eg2 : (jx_wI (jx_wI h' 2 4 (nI (if b < N then b + 1 else N))) 2 2 (h.2.1 3 b)).2.1 2 2 = h.2.1 3 b := by rw [wI_at, jx_up_self]
            have eg3 : ∀ j, (jx_wI (jx_wI h' 2 4 (nI (if b < N then b + 1 else N))) 2 2 (h.2.1 3 b)).2.1 3 j = h.2.1 3 j := fun j => by rw [wI_ne _ _ _ (by decide), wI_ne _ _ _ (by decide), x1.2 3 (by decide)]
            rw [eg2, eg3] at ej
            have z1 : ¬ N ≤ b := by omega
            by_cases jn : jnB (h.2.1 3) N b = true
            · rw [if_pos (of_decide_eq_true jn)] at ej
              rw [ej]
              refine ⟨rfl, (((x1.wI rfl).wI rfl).wI rfl).wI rfl, fun j a1 a2 a3 => by rw [wI_at, jx_up_ne _ _ a3, wI_at, jx_up_ne _ _ a1, wI_at, jx_up_ne _ _ a1, wI_at, jx_up_ne _ _ a3]; exact x2 j a1 a2 a3, ?_⟩
              unfold txA
              rw [show (jx_wI (jx_wI (jx_wI (jx_wI h' 2 4 (nI (if b < N then b + 1 else N))) 2 2 (h.2.1 3 b)) 2 2 (if h.2.1 3 b = 60 then 258 else 259)) 2 4 (nI (b + 1 + 1))).2.1 3 = h.2.1 3 by rw [wI_ne _ _ _ (by decide), wI_ne _ _ _ (by decide), wI_ne _ _ _ (by decide), wI_ne _ _ _ (by decide), x1.2 3 (by decide)]]
              refine ⟨?_, ?_, ?_, ?_, ?_⟩
              · rw [wI_at, jx_up_ne _ _ (by decide), wI_at, jx_up_ne _ _ (by decide), wI_at, jx_up_ne _ _ (by decide), wI_at, jx_up_ne _ _ (by decide)]; exact sz
              · rw [wI_at, jx_up_ne _ _ (by decide), wI_at, jx_up_ne _ _ (by decide), wI_at, jx_up_ne _ _ (by decide), wI_at, jx_up_ne _ _ (by decide)]; exact x3
              · rw [wI_at, jx_up_self]; unfold tkE; rw [if_neg z1, if_neg c102, if_neg c163, if_pos jn]
              · rw [wI_at, jx_up_ne _ _ (by decide), wI_at, jx_up_self]; unfold tkS; rw [if_neg z1, if_neg c102, if_neg c163, if_pos jn]
              · rw [wI_at, jx_up_ne _ _ (by decide), wI_at, jx_up_ne _ _ (by decide), wI_at, jx_up_ne _ _ (by decide), wI_at, jx_up_ne _ _ (by decide)]; exact (x2 5 (by decide) (by decide) (by decide)).trans f0
            · rw [if_neg (fun z => jn (decide_eq_true z))] at ej
              rw [ej]
              refine ⟨rfl, (x1.wI rfl).wI rfl, fun j a1 a2 a3 => by rw [wI_at, jx_up_ne _ _ a1, wI_at, jx_up_ne _ _ a3]; exact x2 j a1 a2 a3, ?_⟩
              unfold txA
              rw [show (jx_wI (jx_wI h' 2 4 (nI (if b < N then b + 1 else N))) 2 2 (h.2.1 3 b)).2.1 3 = h.2.1 3 by rw [wI_ne _ _ _ (by decide), wI_ne _ _ _ (by decide), x1.2 3 (by decide)]]
              refine ⟨?_, ?_, ?_, ?_, ?_⟩
              · rw [wI_at, jx_up_ne _ _ (by decide), wI_at, jx_up_ne _ _ (by decide)]; exact sz
              · rw [wI_at, jx_up_ne _ _ (by decide), wI_at, jx_up_ne _ _ (by decide)]; exact x3
              · rw [wI_at, jx_up_ne _ _ (by decide), wI_at, jx_up_self, if_pos (show b < N by omega)]; unfold tkE; rw [if_neg z1, if_neg c102, if_neg c163, if_neg jn]
              · rw [wI_at, jx_up_self]; unfold tkS; rw [if_neg z1, if_neg c102, if_neg c163, if_neg jn]
              · rw [wI_at, jx_up_ne _ _ (by decide), wI_at, jx_up_ne _ _ (by decide)]; exact (x2 5 (by decide) (by decide) (by decide)).trans f0
          · refine je_aload0 (pc := 166) d1003_166 rfl ?_
            refine je_sipush (pc := 167) (v := 257) d1003_167 rfl ?_
            refine ju_puti (pc := 170) d1003_170 jF_1_37 rfl (sK2 H1.wI) ?_
            refine je_loop (σ := Unit) (spF (fun j => isLt_ (h.2.1 3 j)) N (b + 1) - (b + 1)) (fun k xx => [some (.ref 2)]) (fun k _ h' => fC (fun b => b = 2) h h' ∧ (∀ j, j ≠ 2 → j ≠ 3 → j ≠ 4 → h'.2.1 2 j = h.2.1 2 j) ∧ h'.2.1 2 3 = nI b ∧ h'.2.1 2 4 = nI (b + 1 + k) ∧ h'.2.1 2 2 = 257) (fun k xx h' hk e kk => ?_) (fun xx h' e => ?_) (0) () _ (by omega) ⟨(x1.wI rfl).wI rfl, fun j a1 a2 a3 => by rw [wI_at, jx_up_ne _ _ a1, wI_at, jx_up_ne _ _ a3]; exact x2 j a1 a2 a3, by rw [wI_at, jx_up_ne _ _ (by decide), wI_at, jx_up_ne _ _ (by decide)]; exact x3, by rw [wI_at, jx_up_ne _ _ (by decide), wI_at, jx_up_self, if_pos (show b < N by omega)], by rw [wI_at, jx_up_self]⟩
            · obtain ⟨y1, y2, y3, y4, y5⟩ := e
              have H2 := y1.St H
              have sz : h'.2.1 2 1 = nI N := (y2 1 (by decide) (by decide) (by decide)).trans hs
              have si := sp_in (c := (fun j => isLt_ (h.2.1 3 j))) (N := N) (p := b + 1) (k := k) (by omega)
              refine je_aload0 (pc := 173) d1003_173 rfl ?_
              refine ju_geti (pc := 174) d1003_174 jF_1_19 rfl (sK2 H2) ?_
              refine ju_eqi (v := nI (b + 1 + k)) y4 ?_
              refine je_aload0 (pc := 177) d1003_177 rfl ?_
              refine ju_geti (pc := 178) d1003_178 jF_1_15 rfl (sK2 H2) ?_
              refine ju_eqi (v := nI N) sz ?_
              refine jn_icge (pc := 181) (a := (b + 1 + k)) (b := (N)) 229 d1003_181 (by decide) (by omega) (by omega) (fun c181 => by exfalso; omega) (fun c181 => ?_)
              refine je_aload0 (pc := 184) d1003_184 rfl ?_
              refine ju_getr (pc := 185) (b := 3) d1003_185 jF_1_9 rfl (sK2 H2) (sR2_0 H2) ?_
              refine je_aload0 (pc := 188) d1003_188 rfl ?_
              refine ju_geti (pc := 189) d1003_189 jF_1_19 rfl (sK2 H2) ?_
              refine ju_eqi (v := nI (b + 1 + k)) y4 ?_
              refine ju_iald (pc := 192) (jn := (b + 1 + k)) d1003_192 (sK3 H2) (vp_in_nI (by omega) (by decide)) (nI_clamp (by omega)) ?_
              refine ju_calls (pc := 193) (as := [_]) d1003_193 jL_1_44 jM_Tx_isLetter rfl rfl (by exact Nat.le_of_ble_eq_true rfl) (t_Tx_isLetter (d + 1) _) (fun r193 h193 q193 => ?_)
              obtain ⟨rfl, e193⟩ := q193
              obtain rfl := e193.symm
              refine jb_ifeq (pc := 196) 229 d1003_196 (by decide) (fun c196 => absurd c196 (fun z => z (by rw [y1.2 3 (by decide)]; exact si.2))) (fun c196 => ?_)
              refine je_aload0 (pc := 199) d1003_199 rfl ?_
              refine je_dup (pc := 200) d1003_200 rfl ?_
              refine ju_geti (pc := 201) d1003_201 jF_1_19 rfl (sK2 H2) ?_
              refine ju_eqi (v := nI (b + 1 + k)) y4 ?_
              refine je_iconst (pc := 204) (v := 1) d1003_204 rfl ?_
              refine je_iadd (pc := 205) d1003_205 ?_
              refine ju_eqi (v := nI ((b + 1 + k) + 1)) (nI_add (b + 1 + k) 1) ?_
              refine ju_puti (pc := 206) d1003_206 jF_1_19 rfl (sK2 H2) ?_
              refine je_goto (pc := 209) 173 d1003_209 (by decide) ?_
              refine kk () _ ⟨y1.wI rfl, fun j a1 a2 a3 => by rw [wI_at, jx_up_ne _ _ a3]; exact y2 j a1 a2 a3, by rw [wI_at, jx_up_ne _ _ (by decide)]; exact y3, by rw [wI_at, jx_up_self]; rfl, by rw [wI_at, jx_up_ne _ _ (by decide)]; exact y5⟩
            · obtain ⟨y1, y2, y3, y4, y5⟩ := e
              have H2 := y1.St H
              have sz : h'.2.1 2 1 = nI N := (y2 1 (by decide) (by decide) (by decide)).trans hs
              have so := sp_out (c := (fun j => isLt_ (h.2.1 3 j))) (N := N) (p := b + 1)
              have sl := sp_le (c := (fun j => isLt_ (h.2.1 3 j))) (N := N) (p := b + 1)
              have sn := sp_N (c := (fun j => isLt_ (h.2.1 3 j))) (N := N) (p := b + 1) (by omega)
              refine je_aload0 (pc := 173) d1003_173 rfl ?_
              refine ju_geti (pc := 174) d1003_174 jF_1_19 rfl (sK2 H2) ?_
              refine ju_eqi (v := nI (b + 1 + (spF (fun j => isLt_ (h.2.1 3 j)) N (b + 1) - (b + 1)))) y4 ?_
              refine je_aload0 (pc := 177) d1003_177 rfl ?_
              refine ju_geti (pc := 178) d1003_178 jF_1_15 rfl (sK2 H2) ?_
              refine ju_eqi (v := nI N) sz ?_
              refine jn_icge (pc := 181) (a := (b + 1 + (spF (fun j => isLt_ (h.2.1 3 j)) N (b + 1) - (b + 1)))) (b := (N)) 229 d1003_181 (by decide) (by omega) (by omega) (fun c181 => ?_) (fun c181 => ?_)
              · refine je_ret (pc := 229) d1003_229 rfl ?_
                refine ⟨rfl, y1, y2, ?_⟩
                have e3 := y1.2 3 (by decide)
                unfold txA
                rw [e3]
                refine ⟨sz, y3, ?_, ?_, (y2 5 (by decide) (by decide) (by decide)).trans f0⟩
                · rw [y4]; unfold tkE; rw [if_neg (by omega), if_neg c102, if_pos c163]
                  rw [show b + 1 + (spF (fun j => isLt_ (h.2.1 3 j)) N (b + 1) - (b + 1)) = spF (fun j => isLt_ (h.2.1 3 j)) N (b + 1) by omega]
                · rw [y5]; unfold tkS; rw [if_neg (by omega), if_neg c102, if_pos c163]
              · refine je_aload0 (pc := 184) d1003_184 rfl ?_
                refine ju_getr (pc := 185) (b := 3) d1003_185 jF_1_9 rfl (sK2 H2) (sR2_0 H2) ?_
                refine je_aload0 (pc := 188) d1003_188 rfl ?_
                refine ju_geti (pc := 189) d1003_189 jF_1_19 rfl (sK2 H2) ?_
                refine ju_eqi (v := nI (b + 1 + (spF (fun j => isLt_ (h.2.1 3 j)) N (b + 1) - (b + 1)))) y4 ?_
                refine ju_iald (pc := 192) (jn := (b + 1 + (spF (fun j => isLt_ (h.2.1 3 j)) N (b + 1) - (b + 1)))) d1003_192 (sK3 H2) (vp_in_nI (by omega) (by decide)) (nI_clamp (by omega)) ?_
                refine ju_calls (pc := 193) (as := [_]) d1003_193 jL_1_44 jM_Tx_isLetter rfl rfl (by exact Nat.le_of_ble_eq_true rfl) (t_Tx_isLetter (d + 1) _) (fun r193 h193 q193 => ?_)
                obtain ⟨rfl, e193⟩ := q193
                obtain rfl := e193.symm
                refine jb_ifeq (pc := 196) 229 d1003_196 (by decide) (fun c196 => ?_) (fun c196 => absurd c196 (fun q => so ⟨by omega, by rw [y1.2 3 (by decide), show b + 1 + (spF (fun j => isLt_ (h.2.1 3 j)) N (b + 1) - (b + 1)) = spF (fun j => isLt_ (h.2.1 3 j)) N (b + 1) by omega] at q; exact q⟩))
                refine je_ret (pc := 229) d1003_229 rfl ?_
                refine ⟨rfl, y1, y2, ?_⟩
                have e3 := y1.2 3 (by decide)
                unfold txA
                rw [e3]
                refine ⟨sz, y3, ?_, ?_, (y2 5 (by decide) (by decide) (by decide)).trans f0⟩
                · rw [y4]; unfold tkE; rw [if_neg (by omega), if_neg c102, if_pos c163]
                  rw [show b + 1 + (spF (fun j => isLt_ (h.2.1 3 j)) N (b + 1) - (b + 1)) = spF (fun j => isLt_ (h.2.1 3 j)) N (b + 1) by omega]
                · rw [y5]; unfold tkS; rw [if_neg (by omega), if_neg c102, if_pos c163]
        · refine je_aload0 (pc := 105) d1003_105 rfl ?_
          refine je_sipush (pc := 106) (v := 256) d1003_106 rfl ?_
          refine ju_puti (pc := 109) d1003_109 jF_1_37 rfl (sK2 H1.wI) ?_
          refine je_loop (σ := Unit) (spF (fun j => isDg (h.2.1 3 j)) N (b + 1) - (b + 1)) (fun k xx => [some (.ref 2)]) (fun k _ h' => fC (fun b => b = 2) h h' ∧ (∀ j, j ≠ 2 → j ≠ 3 → j ≠ 4 → h'.2.1 2 j = h.2.1 2 j) ∧ h'.2.1 2 3 = nI b ∧ h'.2.1 2 4 = nI (b + 1 + k) ∧ h'.2.1 2 2 = 256) (fun k xx h' hk e kk => ?_) (fun xx h' e => ?_) (0) () _ (by omega) ⟨(x1.wI rfl).wI rfl, fun j a1 a2 a3 => by rw [wI_at, jx_up_ne _ _ a1, wI_at, jx_up_ne _ _ a3]; exact x2 j a1 a2 a3, by rw [wI_at, jx_up_ne _ _ (by decide), wI_at, jx_up_ne _ _ (by decide)]; exact x3, by rw [wI_at, jx_up_ne _ _ (by decide), wI_at, jx_up_self, if_pos (show b < N by omega)], by rw [wI_at, jx_up_self]⟩
          · obtain ⟨y1, y2, y3, y4, y5⟩ := e
            have H2 := y1.St H
            have sz : h'.2.1 2 1 = nI N := (y2 1 (by decide) (by decide) (by decide)).trans hs
            have si := sp_in (c := (fun j => isDg (h.2.1 3 j))) (N := N) (p := b + 1) (k := k) (by omega)
            refine je_aload0 (pc := 112) d1003_112 rfl ?_
            refine ju_geti (pc := 113) d1003_113 jF_1_19 rfl (sK2 H2) ?_
            refine ju_eqi (v := nI (b + 1 + k)) y4 ?_
            refine je_aload0 (pc := 116) d1003_116 rfl ?_
            refine ju_geti (pc := 117) d1003_117 jF_1_15 rfl (sK2 H2) ?_
            refine ju_eqi (v := nI N) sz ?_
            refine jn_icge (pc := 120) (a := (b + 1 + k)) (b := (N)) 229 d1003_120 (by decide) (by omega) (by omega) (fun c120 => by exfalso; omega) (fun c120 => ?_)
            refine je_aload0 (pc := 123) d1003_123 rfl ?_
            refine ju_getr (pc := 124) (b := 3) d1003_124 jF_1_9 rfl (sK2 H2) (sR2_0 H2) ?_
            refine je_aload0 (pc := 127) d1003_127 rfl ?_
            refine ju_geti (pc := 128) d1003_128 jF_1_19 rfl (sK2 H2) ?_
            refine ju_eqi (v := nI (b + 1 + k)) y4 ?_
            refine ju_iald (pc := 131) (jn := (b + 1 + k)) d1003_131 (sK3 H2) (vp_in_nI (by omega) (by decide)) (nI_clamp (by omega)) ?_
            refine ju_calls (pc := 132) (as := [_]) d1003_132 jL_1_40 jM_Tx_isDigit rfl rfl (by exact Nat.le_of_ble_eq_true rfl) (t_Tx_isDigit (d + 1) _) (fun r132 h132 q132 => ?_)
            obtain ⟨rfl, e132⟩ := q132
            obtain rfl := e132.symm
            refine jb_ifeq (pc := 135) 229 d1003_135 (by decide) (fun c135 => absurd c135 (fun z => z (by rw [y1.2 3 (by decide)]; exact si.2))) (fun c135 => ?_)
            refine je_aload0 (pc := 138) d1003_138 rfl ?_
            refine je_dup (pc := 139) d1003_139 rfl ?_
            refine ju_geti (pc := 140) d1003_140 jF_1_19 rfl (sK2 H2) ?_
            refine ju_eqi (v := nI (b + 1 + k)) y4 ?_
            refine je_iconst (pc := 143) (v := 1) d1003_143 rfl ?_
            refine je_iadd (pc := 144) d1003_144 ?_
            refine ju_eqi (v := nI ((b + 1 + k) + 1)) (nI_add (b + 1 + k) 1) ?_
            refine ju_puti (pc := 145) d1003_145 jF_1_19 rfl (sK2 H2) ?_
            refine je_goto (pc := 148) 112 d1003_148 (by decide) ?_
            refine kk () _ ⟨y1.wI rfl, fun j a1 a2 a3 => by rw [wI_at, jx_up_ne _ _ a3]; exact y2 j a1 a2 a3, by rw [wI_at, jx_up_ne _ _ (by decide)]; exact y3, by rw [wI_at, jx_up_self]; rfl, by rw [wI_at, jx_up_ne _ _ (by decide)]; exact y5⟩
          · obtain ⟨y1, y2, y3, y4, y5⟩ := e
            have H2 := y1.St H
            have sz : h'.2.1 2 1 = nI N := (y2 1 (by decide) (by decide) (by decide)).trans hs
            have so := sp_out (c := (fun j => isDg (h.2.1 3 j))) (N := N) (p := b + 1)
            have sl := sp_le (c := (fun j => isDg (h.2.1 3 j))) (N := N) (p := b + 1)
            have sn := sp_N (c := (fun j => isDg (h.2.1 3 j))) (N := N) (p := b + 1) (by omega)
            refine je_aload0 (pc := 112) d1003_112 rfl ?_
            refine ju_geti (pc := 113) d1003_113 jF_1_19 rfl (sK2 H2) ?_
            refine ju_eqi (v := nI (b + 1 + (spF (fun j => isDg (h.2.1 3 j)) N (b + 1) - (b + 1)))) y4 ?_
            refine je_aload0 (pc := 116) d1003_116 rfl ?_
            refine ju_geti (pc := 117) d1003_117 jF_1_15 rfl (sK2 H2) ?_
            refine ju_eqi (v := nI N) sz ?_
            refine jn_icge (pc := 120) (a := (b + 1 + (spF (fun j => isDg (h.2.1 3 j)) N (b + 1) - (b + 1)))) (b := (N)) 229 d1003_120 (by decide) (by omega) (by omega) (fun c120 => ?_) (fun c120 => ?_)
            · refine je_ret (pc := 229) d1003_229 rfl ?_
              refine ⟨rfl, y1, y2, ?_⟩
              have e3 := y1.2 3 (by decide)
              unfold txA
              rw [e3]
              refine ⟨sz, y3, ?_, ?_, (y2 5 (by decide) (by decide) (by decide)).trans f0⟩
              · rw [y4]; unfold tkE; rw [if_neg (by omega), if_pos c102]
                rw [show b + 1 + (spF (fun j => isDg (h.2.1 3 j)) N (b + 1) - (b + 1)) = spF (fun j => isDg (h.2.1 3 j)) N (b + 1) by omega]
              · rw [y5]; unfold tkS; rw [if_neg (by omega), if_pos c102]
            · refine je_aload0 (pc := 123) d1003_123 rfl ?_
              refine ju_getr (pc := 124) (b := 3) d1003_124 jF_1_9 rfl (sK2 H2) (sR2_0 H2) ?_
              refine je_aload0 (pc := 127) d1003_127 rfl ?_
              refine ju_geti (pc := 128) d1003_128 jF_1_19 rfl (sK2 H2) ?_
              refine ju_eqi (v := nI (b + 1 + (spF (fun j => isDg (h.2.1 3 j)) N (b + 1) - (b + 1)))) y4 ?_
              refine ju_iald (pc := 131) (jn := (b + 1 + (spF (fun j => isDg (h.2.1 3 j)) N (b + 1) - (b + 1)))) d1003_131 (sK3 H2) (vp_in_nI (by omega) (by decide)) (nI_clamp (by omega)) ?_
              refine ju_calls (pc := 132) (as := [_]) d1003_132 jL_1_40 jM_Tx_isDigit rfl rfl (by exact Nat.le_of_ble_eq_true rfl) (t_Tx_isDigit (d + 1) _) (fun r132 h132 q132 => ?_)
              obtain ⟨rfl, e132⟩ := q132
              obtain rfl := e132.symm
              refine jb_ifeq (pc := 135) 229 d1003_135 (by decide) (fun c135 => ?_) (fun c135 => absurd c135 (fun q => so ⟨by omega, by rw [y1.2 3 (by decide), show b + 1 + (spF (fun j => isDg (h.2.1 3 j)) N (b + 1) - (b + 1)) = spF (fun j => isDg (h.2.1 3 j)) N (b + 1) by omega] at q; exact q⟩))
              refine je_ret (pc := 229) d1003_229 rfl ?_
              refine ⟨rfl, y1, y2, ?_⟩
              have e3 := y1.2 3 (by decide)
              unfold txA
              rw [e3]
              refine ⟨sz, y3, ?_, ?_, (y2 5 (by decide) (by decide) (by decide)).trans f0⟩
              · rw [y4]; unfold tkE; rw [if_neg (by omega), if_pos c102]
                rw [show b + 1 + (spF (fun j => isDg (h.2.1 3 j)) N (b + 1) - (b + 1)) = spF (fun j => isDg (h.2.1 3 j)) N (b + 1) by omega]
              · rw [y5]; unfold tkS; rw [if_neg (by omega), if_pos c102]
      · refine je_aload0 (pc := 82) d1003_82 rfl ?_
        refine je_iconst (pc := 83) (v := -1) d1003_83 rfl ?_
        refine ju_puti (pc := 84) d1003_84 jF_1_37 rfl (sK2 H1.wI) ?_
        refine je_goto (pc := 87) 229 d1003_87 (by decide) ?_
        refine je_ret (pc := 229) d1003_229 rfl ?_
        refine ⟨rfl, (x1.wI rfl).wI rfl, fun j a1 a2 a3 => by rw [wI_at, jx_up_ne _ _ a1, wI_at, jx_up_ne _ _ a3]; exact x2 j a1 a2 a3, ?_⟩
        unfold txA
        have z1 : N ≤ b := by omega
        refine ⟨?_, ?_, ?_, ?_, ?_⟩
        · rw [wI_at, jx_up_ne _ _ (by decide), wI_at, jx_up_ne _ _ (by decide)]; exact sz
        · rw [wI_at, jx_up_ne _ _ (by decide), wI_at, jx_up_ne _ _ (by decide)]; exact x3
        · rw [wI_at, jx_up_ne _ _ (by decide), wI_at, jx_up_self, if_neg (show ¬ b < N by omega)]; unfold tkE; rw [if_pos z1]
        · rw [wI_at, jx_up_self]; unfold tkS; rw [if_pos z1]
        · rw [wI_at, jx_up_ne _ _ (by decide), wI_at, jx_up_ne _ _ (by decide)]; exact (x2 5 (by decide) (by decide) (by decide)).trans f0
    · refine je_aload0 (pc := 27) d1003_27 rfl ?_
      refine ju_getr (pc := 28) (b := 3) d1003_28 jF_1_9 rfl (sK2 H1) (sR2_0 H1) ?_
      refine je_aload0 (pc := 31) d1003_31 rfl ?_
      refine ju_geti (pc := 32) d1003_32 jF_1_28 rfl (sK2 H1) ?_
      refine ju_eqi (v := nI b) x3 ?_
      refine ju_iald (pc := 35) (jn := (b)) d1003_35 (sK3 H1) (vp_in_nI (by omega) (by decide)) (nI_clamp (by omega)) ?_
      refine je_bipush (pc := 36) (v := 32) d1003_36 rfl ?_
      refine je_icne (pc := 38) 54 d1003_38 (by decide) (fun c38 => ?_) (fun c38 => absurd c38 (fun q => so ⟨c24, by rw [x1.2 3 (by decide)] at q; exact decide_eq_true q⟩))
      refine je_aload0 (pc := 54) d1003_54 rfl ?_
      refine je_aload0 (pc := 55) d1003_55 rfl ?_
      refine ju_geti (pc := 56) d1003_56 jF_1_28 rfl (sK2 H1) ?_
      refine ju_eqi (v := nI b) x3 ?_
      refine je_iconst (pc := 59) (v := 1) d1003_59 rfl ?_
      refine je_iadd (pc := 60) d1003_60 ?_
      refine ju_eqi (v := nI ((b) + 1)) (nI_add (b) 1) ?_
      refine je_aload0 (pc := 61) d1003_61 rfl ?_
      refine ju_geti (pc := 62) d1003_62 jF_1_15 rfl (sK2 H1) ?_
      refine ju_eqi (v := nI N) sz ?_
      refine je_mmin (pc := 65) d1003_65 jLm_1_31 (by exact Nat.le_of_ble_eq_true rfl) ?_
      refine ju_eqi (v := nI (if b < N then b + 1 else N)) (mn_e (by omega) (by omega)) ?_
      refine ju_puti (pc := 68) d1003_68 jF_1_19 rfl (sK2 H1) ?_
      refine je_aload0 (pc := 71) d1003_71 rfl ?_
      refine ju_geti (pc := 72) d1003_72 jF_1_28 rfl (sK2 H1.wI) ?_
      refine ju_eqi (v := nI b) (by rw [wI_at, jx_up_ne _ _ (by decide)]; exact x3) ?_
      refine je_aload0 (pc := 75) d1003_75 rfl ?_
      refine ju_geti (pc := 76) d1003_76 jF_1_15 rfl (sK2 H1.wI) ?_
      refine ju_eqi (v := nI N) (by rw [wI_at, jx_up_ne _ _ (by decide)]; exact sz) ?_
      refine jn_iclt (pc := 79) (a := (b)) (b := (N)) 90 d1003_79 (by decide) (by omega) (by omega) (fun c79 => ?_) (fun c79 => ?_)
      · refine je_aload0 (pc := 90) d1003_90 rfl ?_
        refine ju_getr (pc := 91) (b := 3) d1003_91 jF_1_9 rfl (sK2 H1.wI) (sR2_0 H1.wI) ?_
        refine je_aload0 (pc := 94) d1003_94 rfl ?_
        refine ju_geti (pc := 95) d1003_95 jF_1_28 rfl (sK2 H1.wI) ?_
        refine ju_eqi (v := nI b) (by rw [wI_at, jx_up_ne _ _ (by decide)]; exact x3) ?_
        refine ju_iald (pc := 98) (jn := (b)) d1003_98 (sK3 H1.wI) (vp_in_nI (by omega) (by decide)) (nI_clamp (by omega)) ?_
        refine ju_eqi (v := h.2.1 3 b) (by rw [wI_ne _ _ _ (by decide), x1.2 3 (by decide)]) ?_
        refine ju_calls (pc := 99) (as := [_]) d1003_99 jL_1_40 jM_Tx_isDigit rfl rfl (by exact Nat.le_of_ble_eq_true rfl) (t_Tx_isDigit (d + 1) _) (fun r99 h99 q99 => ?_)
        obtain ⟨rfl, e99⟩ := q99
        obtain rfl := e99.symm
        refine jb_ifeq (pc := 102) 151 d1003_102 (by decide) (fun c102 => ?_) (fun c102 => ?_)
        · refine je_aload0 (pc := 151) d1003_151 rfl ?_
          refine ju_getr (pc := 152) (b := 3) d1003_152 jF_1_9 rfl (sK2 H1.wI) (sR2_0 H1.wI) ?_
          refine je_aload0 (pc := 155) d1003_155 rfl ?_
          refine ju_geti (pc := 156) d1003_156 jF_1_28 rfl (sK2 H1.wI) ?_
          refine ju_eqi (v := nI b) (by rw [wI_at, jx_up_ne _ _ (by decide)]; exact x3) ?_
          refine ju_iald (pc := 159) (jn := (b)) d1003_159 (sK3 H1.wI) (vp_in_nI (by omega) (by decide)) (nI_clamp (by omega)) ?_
          refine ju_eqi (v := h.2.1 3 b) (by rw [wI_ne _ _ _ (by decide), x1.2 3 (by decide)]) ?_
          refine ju_calls (pc := 160) (as := [_]) d1003_160 jL_1_44 jM_Tx_isLetter rfl rfl (by exact Nat.le_of_ble_eq_true rfl) (t_Tx_isLetter (d + 1) _) (fun r160 h160 q160 => ?_)
          obtain ⟨rfl, e160⟩ := q160
          obtain rfl := e160.symm
          refine jb_ifeq (pc := 163) 212 d1003_163 (by decide) (fun c163 => ?_) (fun c163 => ?_)
          · refine je_aload0 (pc := 212) d1003_212 rfl ?_
            refine je_aload0 (pc := 213) d1003_213 rfl ?_
            refine ju_getr (pc := 214) (b := 3) d1003_214 jF_1_9 rfl (sK2 H1.wI) (sR2_0 H1.wI) ?_
            refine je_aload0 (pc := 217) d1003_217 rfl ?_
            refine ju_geti (pc := 218) d1003_218 jF_1_28 rfl (sK2 H1.wI) ?_
            refine ju_eqi (v := nI b) (by rw [wI_at, jx_up_ne _ _ (by decide)]; exact x3) ?_
            refine ju_iald (pc := 221) (jn := (b)) d1003_221 (sK3 H1.wI) (vp_in_nI (by omega) (by decide)) (nI_clamp (by omega)) ?_
            refine ju_eqi (v := h.2.1 3 b) (by rw [wI_ne _ _ _ (by decide), x1.2 3 (by decide)]) ?_
            refine ju_puti (pc := 222) d1003_222 jF_1_37 rfl (sK2 H1.wI) ?_
            refine je_aload0 (pc := 225) d1003_225 rfl ?_
            refine ju_callv (pc := 226) (as := []) d1003_226 jL_1_47 jM_Tx_joinEqual rfl (by decide) (sK2 H1.wI.wI) rfl (by exact Nat.le_of_ble_eq_true rfl) (t_Tx_joinEqual (d + 1) (N := N) (e := b + 1) H1.wI.wI (by rw [wI_at, jx_up_ne _ _ (by decide), wI_at, jx_up_ne _ _ (by decide)]; exact sz) (by rw [wI_at, jx_up_ne _ _ (by decide), wI_at, jx_up_self, if_pos (show b < N by omega)]) (by omega) (by omega)) (fun r226 h226 q226 => ?_)
            obtain ⟨rfl, ej⟩ := q226
            refine je_ret (pc := 229) d1003_229 rfl ?_
            have eg2 : (jx_wI (jx_wI h' 2 4 (nI (if b < N then b + 1 else N))) 2 2 (h.2.1 3 b)).2.1 2 2 = h.2.1 3 b := by rw [wI_at, jx_up_self]
            have eg3 : ∀ j, (jx_wI (jx_wI h' 2 4 (nI (if b < N then b + 1 else N))) 2 2 (h.2.1 3 b)).2.1 3 j = h.2.1 3 j := fun j => by rw [wI_ne _ _ _ (by decide), wI_ne _ _ _ (by decide), x1.2 3 (by decide)]
            rw [eg2, eg3] at ej
            have z1 : ¬ N ≤ b := by omega
            by_cases jn : jnB (h.2.1 3) N b = true
            · rw [if_pos (of_decide_eq_true jn)] at ej
              rw [ej]
              refine ⟨rfl, (((x1.wI rfl).wI rfl).wI rfl).wI rfl, fun j a1 a2 a3 => by rw [wI_at, jx_up_ne _ _ a3, wI_at, jx_up_ne _ _ a1, wI_at, jx_up_ne _ _ a1, wI_at, jx_up_ne _ _ a3]; exact x2 j a1 a2 a3, ?_⟩
              unfold txA
              rw [show (jx_wI (jx_wI (jx_wI (jx_wI h' 2 4 (nI (if b < N then b + 1 else N))) 2 2 (h.2.1 3 b)) 2 2 (if h.2.1 3 b = 60 then 258 else 259)) 2 4 (nI (b + 1 + 1))).2.1 3 = h.2.1 3 by rw [wI_ne _ _ _ (by decide), wI_ne _ _ _ (by decide), wI_ne _ _ _ (by decide), wI_ne _ _ _ (by decide), x1.2 3 (by decide)]]
              refine ⟨?_, ?_, ?_, ?_, ?_⟩
              · rw [wI_at, jx_up_ne _ _ (by decide), wI_at, jx_up_ne _ _ (by decide), wI_at, jx_up_ne _ _ (by decide), wI_at, jx_up_ne _ _ (by decide)]; exact sz
              · rw [wI_at, jx_up_ne _ _ (by decide), wI_at, jx_up_ne _ _ (by decide), wI_at, jx_up_ne _ _ (by decide), wI_at, jx_up_ne _ _ (by decide)]; exact x3
              · rw [wI_at, jx_up_self]; unfold tkE; rw [if_neg z1, if_neg c102, if_neg c163, if_pos jn]
              · rw [wI_at, jx_up_ne _ _ (by decide), wI_at, jx_up_self]; unfold tkS; rw [if_neg z1, if_neg c102, if_neg c163, if_pos jn]
              · rw [wI_at, jx_up_ne _ _ (by decide), wI_at, jx_up_ne _ _ (by decide), wI_at, jx_up_ne _ _ (by decide), wI_at, jx_up_ne _ _ (by decide)]; exact (x2 5 (by decide) (by decide) (by decide)).trans f0
            · rw [if_neg (fun z => jn (decide_eq_true z))] at ej
              rw [ej]
              refine ⟨rfl, (x1.wI rfl).wI rfl, fun j a1 a2 a3 => by rw [wI_at, jx_up_ne _ _ a1, wI_at, jx_up_ne _ _ a3]; exact x2 j a1 a2 a3, ?_⟩
              unfold txA
              rw [show (jx_wI (jx_wI h' 2 4 (nI (if b < N then b + 1 else N))) 2 2 (h.2.1 3 b)).2.1 3 = h.2.1 3 by rw [wI_ne _ _ _ (by decide), wI_ne _ _ _ (by decide), x1.2 3 (by decide)]]
              refine ⟨?_, ?_, ?_, ?_, ?_⟩
              · rw [wI_at, jx_up_ne _ _ (by decide), wI_at, jx_up_ne _ _ (by decide)]; exact sz
              · rw [wI_at, jx_up_ne _ _ (by decide), wI_at, jx_up_ne _ _ (by decide)]; exact x3
              · rw [wI_at, jx_up_ne _ _ (by decide), wI_at, jx_up_self, if_pos (show b < N by omega)]; unfold tkE; rw [if_neg z1, if_neg c102, if_neg c163, if_neg jn]
              · rw [wI_at, jx_up_self]; unfold tkS; rw [if_neg z1, if_neg c102, if_neg c163, if_neg jn]
              · rw [wI_at, jx_up_ne _ _ (by decide), wI_at, jx_up_ne _ _ (by decide)]; exact (x2 5 (by decide) (by decide) (by decide)).trans f0
          · refine je_aload0 (pc := 166) d1003_166 rfl ?_
            refine je_sipush (pc := 167) (v := 257) d1003_167 rfl ?_
            refine ju_puti (pc := 170) d1003_170 jF_1_37 rfl (sK2 H1.wI) ?_
            refine je_loop (σ := Unit) (spF (fun j => isLt_ (h.2.1 3 j)) N (b + 1) - (b + 1)) (fun k xx => [some (.ref 2)]) (fun k _ h' => fC (fun b => b = 2) h h' ∧ (∀ j, j ≠ 2 → j ≠ 3 → j ≠ 4 → h'.2.1 2 j = h.2.1 2 j) ∧ h'.2.1 2 3 = nI b ∧ h'.2.1 2 4 = nI (b + 1 + k) ∧ h'.2.1 2 2 = 257) (fun k xx h' hk e kk => ?_) (fun xx h' e => ?_) (0) () _ (by omega) ⟨(x1.wI rfl).wI rfl, fun j a1 a2 a3 => by rw [wI_at, jx_up_ne _ _ a1, wI_at, jx_up_ne _ _ a3]; exact x2 j a1 a2 a3, by rw [wI_at, jx_up_ne _ _ (by decide), wI_at, jx_up_ne _ _ (by decide)]; exact x3, by rw [wI_at, jx_up_ne _ _ (by decide), wI_at, jx_up_self, if_pos (show b < N by omega)], by rw [wI_at, jx_up_self]⟩
            · obtain ⟨y1, y2, y3, y4, y5⟩ := e
              have H2 := y1.St H
              have sz : h'.2.1 2 1 = nI N := (y2 1 (by decide) (by decide) (by decide)).trans hs
              have si := sp_in (c := (fun j => isLt_ (h.2.1 3 j))) (N := N) (p := b + 1) (k := k) (by omega)
              refine je_aload0 (pc := 173) d1003_173 rfl ?_
              refine ju_geti (pc := 174) d1003_174 jF_1_19 rfl (sK2 H2) ?_
              refine ju_eqi (v := nI (b + 1 + k)) y4 ?_
              refine je_aload0 (pc := 177) d1003_177 rfl ?_
              refine ju_geti (pc := 178) d1003_178 jF_1_15 rfl (sK2 H2) ?_
              refine ju_eqi (v := nI N) sz ?_
              refine jn_icge (pc := 181) (a := (b + 1 + k)) (b := (N)) 229 d1003_181 (by decide) (by omega) (by omega) (fun c181 => by exfalso; omega) (fun c181 => ?_)
              refine je_aload0 (pc := 184) d1003_184 rfl ?_
              refine ju_getr (pc := 185) (b := 3) d1003_185 jF_1_9 rfl (sK2 H2) (sR2_0 H2) ?_
              refine je_aload0 (pc := 188) d1003_188 rfl ?_
              refine ju_geti (pc := 189) d1003_189 jF_1_19 rfl (sK2 H2) ?_
              refine ju_eqi (v := nI (b + 1 + k)) y4 ?_
              refine ju_iald (pc := 192) (jn := (b + 1 + k)) d1003_192 (sK3 H2) (vp_in_nI (by omega) (by decide)) (nI_clamp (by omega)) ?_
              refine ju_calls (pc := 193) (as := [_]) d1003_193 jL_1_44 jM_Tx_isLetter rfl rfl (by exact Nat.le_of_ble_eq_true rfl) (t_Tx_isLetter (d + 1) _) (fun r193 h193 q193 => ?_)
              obtain ⟨rfl, e193⟩ := q193
              obtain rfl := e193.symm
              refine jb_ifeq (pc := 196) 229 d1003_196 (by decide) (fun c196 => absurd c196 (fun z => z (by rw [y1.2 3 (by decide)]; exact si.2))) (fun c196 => ?_)
              refine je_aload0 (pc := 199) d1003_199 rfl ?_
              refine je_dup (pc := 200) d1003_200 rfl ?_
              refine ju_geti (pc := 201) d1003_201 jF_1_19 rfl (sK2 H2) ?_
              refine ju_eqi (v := nI (b + 1 + k)) y4 ?_
              refine je_iconst (pc := 204) (v := 1) d1003_204 rfl ?_
              refine je_iadd (pc := 205) d1003_205 ?_
              refine ju_eqi (v := nI ((b + 1 + k) + 1)) (nI_add (b + 1 + k) 1) ?_
              refine ju_puti (pc := 206) d1003_206 jF_1_19 rfl (sK2 H2) ?_
              refine je_goto (pc := 209) 173 d1003_209 (by decide) ?_
              refine kk () _ ⟨y1.wI rfl, fun j a1 a2 a3 => by rw [wI_at, jx_up_ne _ _ a3]; exact y2 j a1 a2 a3, by rw [wI_at, jx_up_ne _ _ (by decide)]; exact y3, by rw [wI_at, jx_up_self]; rfl, by rw [wI_at, jx_up_ne _ _ (by decide)]; exact y5⟩
            · obtain ⟨y1, y2, y3, y4, y5⟩ := e
              have H2 := y1.St H
              have sz : h'.2.1 2 1 = nI N := (y2 1 (by decide) (by decide) (by decide)).trans hs
              have so := sp_out (c := (fun j => isLt_ (h.2.1 3 j))) (N := N) (p := b + 1)
              have sl := sp_le (c := (fun j => isLt_ (h.2.1 3 j))) (N := N) (p := b + 1)
              have sn := sp_N (c := (fun j => isLt_ (h.2.1 3 j))) (N := N) (p := b + 1) (by omega)
              refine je_aload0 (pc := 173) d1003_173 rfl ?_
              refine ju_geti (pc := 174) d1003_174 jF_1_19 rfl (sK2 H2) ?_
              refine ju_eqi (v := nI (b + 1 + (spF (fun j => isLt_ (h.2.1 3 j)) N (b + 1) - (b + 1)))) y4 ?_
              refine je_aload0 (pc := 177) d1003_177 rfl ?_
              refine ju_geti (pc := 178) d1003_178 jF_1_15 rfl (sK2 H2) ?_
              refine ju_eqi (v := nI N) sz ?_
              refine jn_icge (pc := 181) (a := (b + 1 + (spF (fun j => isLt_ (h.2.1 3 j)) N (b + 1) - (b + 1)))) (b := (N)) 229 d1003_181 (by decide) (by omega) (by omega) (fun c181 => ?_) (fun c181 => ?_)
              · refine je_ret (pc := 229) d1003_229 rfl ?_
                refine ⟨rfl, y1, y2, ?_⟩
                have e3 := y1.2 3 (by decide)
                unfold txA
                rw [e3]
                refine ⟨sz, y3, ?_, ?_, (y2 5 (by decide) (by decide) (by decide)).trans f0⟩
                · rw [y4]; unfold tkE; rw [if_neg (by omega), if_neg c102, if_pos c163]
                  rw [show b + 1 + (spF (fun j => isLt_ (h.2.1 3 j)) N (b + 1) - (b + 1)) = spF (fun j => isLt_ (h.2.1 3 j)) N (b + 1) by omega]
                · rw [y5]; unfold tkS; rw [if_neg (by omega), if_neg c102, if_pos c163]
              · refine je_aload0 (pc := 184) d1003_184 rfl ?_
                refine ju_getr (pc := 185) (b := 3) d1003_185 jF_1_9 rfl (sK2 H2) (sR2_0 H2) ?_
                refine je_aload0 (pc := 188) d1003_188 rfl ?_
                refine ju_geti (pc := 189) d1003_189 jF_1_19 rfl (sK2 H2) ?_
                refine ju_eqi (v := nI (b + 1 + (spF (fun j => isLt_ (h.2.1 3 j)) N (b + 1) - (b + 1)))) y4 ?_
                refine ju_iald (pc := 192) (jn := (b + 1 + (spF (fun j => isLt_ (h.2.1 3 j)) N (b + 1) - (b + 1)))) d1003_192 (sK3 H2) (vp_in_nI (by omega) (by decide)) (nI_clamp (by omega)) ?_
                refine ju_calls (pc := 193) (as := [_]) d1003_193 jL_1_44 jM_Tx_isLetter rfl rfl (by exact Nat.le_of_ble_eq_true rfl) (t_Tx_isLetter (d + 1) _) (fun r193 h193 q193 => ?_)
                obtain ⟨rfl, e193⟩ := q193
                obtain rfl := e193.symm
                refine jb_ifeq (pc := 196) 229 d1003_196 (by decide) (fun c196 => ?_) (fun c196 => absurd c196 (fun q => so ⟨by omega, by rw [y1.2 3 (by decide), show b + 1 + (spF (fun j => isLt_ (h.2.1 3 j)) N (b + 1) - (b + 1)) = spF (fun j => isLt_ (h.2.1 3 j)) N (b + 1) by omega] at q; exact q⟩))
                refine je_ret (pc := 229) d1003_229 rfl ?_
                refine ⟨rfl, y1, y2, ?_⟩
                have e3 := y1.2 3 (by decide)
                unfold txA
                rw [e3]
                refine ⟨sz, y3, ?_, ?_, (y2 5 (by decide) (by decide) (by decide)).trans f0⟩
                · rw [y4]; unfold tkE; rw [if_neg (by omega), if_neg c102, if_pos c163]
                  rw [show b + 1 + (spF (fun j => isLt_ (h.2.1 3 j)) N (b + 1) - (b + 1)) = spF (fun j => isLt_ (h.2.1 3 j)) N (b + 1) by omega]
                · rw [y5]; unfold tkS; rw [if_neg (by omega), if_neg c102, if_pos c163]
        · refine je_aload0 (pc := 105) d1003_105 rfl ?_
          refine je_sipush (pc := 106) (v := 256) d1003_106 rfl ?_
          refine ju_puti (pc := 109) d1003_109 jF_1_37 rfl (sK2 H1.wI) ?_
          refine je_loop (σ := Unit) (spF (fun j => isDg (h.2.1 3 j)) N (b + 1) - (b + 1)) (fun k xx => [some (.ref 2)]) (fun k _ h' => fC (fun b => b = 2) h h' ∧ (∀ j, j ≠ 2 → j ≠ 3 → j ≠ 4 → h'.2.1 2 j = h.2.1 2 j) ∧ h'.2.1 2 3 = nI b ∧ h'.2.1 2 4 = nI (b + 1 + k) ∧ h'.2.1 2 2 = 256) (fun k xx h' hk e kk => ?_) (fun xx h' e => ?_) (0) () _ (by omega) ⟨(x1.wI rfl).wI rfl, fun j a1 a2 a3 => by rw [wI_at, jx_up_ne _ _ a1, wI_at, jx_up_ne _ _ a3]; exact x2 j a1 a2 a3, by rw [wI_at, jx_up_ne _ _ (by decide), wI_at, jx_up_ne _ _ (by decide)]; exact x3, by rw [wI_at, jx_up_ne _ _ (by decide), wI_at, jx_up_self, if_pos (show b < N by omega)], by rw [wI_at, jx_up_self]⟩
          · obtain ⟨y1, y2, y3, y4, y5⟩ := e
            have H2 := y1.St H
            have sz : h'.2.1 2 1 = nI N := (y2 1 (by decide) (by decide) (by decide)).trans hs
            have si := sp_in (c := (fun j => isDg (h.2.1 3 j))) (N := N) (p := b + 1) (k := k) (by omega)
            refine je_aload0 (pc := 112) d1003_112 rfl ?_
            refine ju_geti (pc := 113) d1003_113 jF_1_19 rfl (sK2 H2) ?_
            refine ju_eqi (v := nI (b + 1 + k)) y4 ?_
            refine je_aload0 (pc := 116) d1003_116 rfl ?_
            refine ju_geti (pc := 117) d1003_117 jF_1_15 rfl (sK2 H2) ?_
            refine ju_eqi (v := nI N) sz ?_
            refine jn_icge (pc := 120) (a := (b + 1 + k)) (b := (N)) 229 d1003_120 (by decide) (by omega) (by omega) (fun c120 => by exfalso; omega) (fun c120 => ?_)
            refine je_aload0 (pc := 123) d1003_123 rfl ?_
            refine ju_getr (pc := 124) (b := 3) d1003_124 jF_1_9 rfl (sK2 H2) (sR2_0 H2) ?_
            refine je_aload0 (pc := 127) d1003_127 rfl ?_
            refine ju_geti (pc := 128) d1003_128 jF_1_19 rfl (sK2 H2) ?_
            refine ju_eqi (v := nI (b + 1 + k)) y4 ?_
            refine ju_iald (pc := 131) (jn := (b + 1 + k)) d1003_131 (sK3 H2) (vp_in_nI (by omega) (by decide)) (nI_clamp (by omega)) ?_
            refine ju_calls (pc := 132) (as := [_]) d1003_132 jL_1_40 jM_Tx_isDigit rfl rfl (by exact Nat.le_of_ble_eq_true rfl) (t_Tx_isDigit (d + 1) _) (fun r132 h132 q132 => ?_)
            obtain ⟨rfl, e132⟩ := q132
            obtain rfl := e132.symm
            refine jb_ifeq (pc := 135) 229 d1003_135 (by decide) (fun c135 => absurd c135 (fun z => z (by rw [y1.2 3 (by decide)]; exact si.2))) (fun c135 => ?_)
            refine je_aload0 (pc := 138) d1003_138 rfl ?_
            refine je_dup (pc := 139) d1003_139 rfl ?_
            refine ju_geti (pc := 140) d1003_140 jF_1_19 rfl (sK2 H2) ?_
            refine ju_eqi (v := nI (b + 1 + k)) y4 ?_
            refine je_iconst (pc := 143) (v := 1) d1003_143 rfl ?_
            refine je_iadd (pc := 144) d1003_144 ?_
            refine ju_eqi (v := nI ((b + 1 + k) + 1)) (nI_add (b + 1 + k) 1) ?_
            refine ju_puti (pc := 145) d1003_145 jF_1_19 rfl (sK2 H2) ?_
            refine je_goto (pc := 148) 112 d1003_148 (by decide) ?_
            refine kk () _ ⟨y1.wI rfl, fun j a1 a2 a3 => by rw [wI_at, jx_up_ne _ _ a3]; exact y2 j a1 a2 a3, by rw [wI_at, jx_up_ne _ _ (by decide)]; exact y3, by rw [wI_at, jx_up_self]; rfl, by rw [wI_at, jx_up_ne _ _ (by decide)]; exact y5⟩
          · obtain ⟨y1, y2, y3, y4, y5⟩ := e
            have H2 := y1.St H
            have sz : h'.2.1 2 1 = nI N := (y2 1 (by decide) (by decide) (by decide)).trans hs
            have so := sp_out (c := (fun j => isDg (h.2.1 3 j))) (N := N) (p := b + 1)
            have sl := sp_le (c := (fun j => isDg (h.2.1 3 j))) (N := N) (p := b + 1)
            have sn := sp_N (c := (fun j => isDg (h.2.1 3 j))) (N := N) (p := b + 1) (by omega)
            refine je_aload0 (pc := 112) d1003_112 rfl ?_
            refine ju_geti (pc := 113) d1003_113 jF_1_19 rfl (sK2 H2) ?_
            refine ju_eqi (v := nI (b + 1 + (spF (fun j => isDg (h.2.1 3 j)) N (b + 1) - (b + 1)))) y4 ?_
            refine je_aload0 (pc := 116) d1003_116 rfl ?_
            refine ju_geti (pc := 117) d1003_117 jF_1_15 rfl (sK2 H2) ?_
            refine ju_eqi (v := nI N) sz ?_
            refine jn_icge (pc := 120) (a := (b + 1 + (spF (fun j => isDg (h.2.1 3 j)) N (b + 1) - (b + 1)))) (b := (N)) 229 d1003_120 (by decide) (by omega) (by omega) (fun c120 => ?_) (fun c120 => ?_)
            · refine je_ret (pc := 229) d1003_229 rfl ?_
              refine ⟨rfl, y1, y2, ?_⟩
              have e3 := y1.2 3 (by decide)
              unfold txA
              rw [e3]
              refine ⟨sz, y3, ?_, ?_, (y2 5 (by decide) (by decide) (by decide)).trans f0⟩
              · rw [y4]; unfold tkE; rw [if_neg (by omega), if_pos c102]
                rw [show b + 1 + (spF (fun j => isDg (h.2.1 3 j)) N (b + 1) - (b + 1)) = spF (fun j => isDg (h.2.1 3 j)) N (b + 1) by omega]
              · rw [y5]; unfold tkS; rw [if_neg (by omega), if_pos c102]
            · refine je_aload0 (pc := 123) d1003_123 rfl ?_
              refine ju_getr (pc := 124) (b := 3) d1003_124 jF_1_9 rfl (sK2 H2) (sR2_0 H2) ?_
              refine je_aload0 (pc := 127) d1003_127 rfl ?_
              refine ju_geti (pc := 128) d1003_128 jF_1_19 rfl (sK2 H2) ?_
              refine ju_eqi (v := nI (b + 1 + (spF (fun j => isDg (h.2.1 3 j)) N (b + 1) - (b + 1)))) y4 ?_
              refine ju_iald (pc := 131) (jn := (b + 1 + (spF (fun j => isDg (h.2.1 3 j)) N (b + 1) - (b + 1)))) d1003_131 (sK3 H2) (vp_in_nI (by omega) (by decide)) (nI_clamp (by omega)) ?_
              refine ju_calls (pc := 132) (as := [_]) d1003_132 jL_1_40 jM_Tx_isDigit rfl rfl (by exact Nat.le_of_ble_eq_true rfl) (t_Tx_isDigit (d + 1) _) (fun r132 h132 q132 => ?_)
              obtain ⟨rfl, e132⟩ := q132
              obtain rfl := e132.symm
              refine jb_ifeq (pc := 135) 229 d1003_135 (by decide) (fun c135 => ?_) (fun c135 => absurd c135 (fun q => so ⟨by omega, by rw [y1.2 3 (by decide), show b + 1 + (spF (fun j => isDg (h.2.1 3 j)) N (b + 1) - (b + 1)) = spF (fun j => isDg (h.2.1 3 j)) N (b + 1) by omega] at q; exact q⟩))
              refine je_ret (pc := 229) d1003_229 rfl ?_
              refine ⟨rfl, y1, y2, ?_⟩
              have e3 := y1.2 3 (by decide)
              unfold txA
              rw [e3]
              refine ⟨sz, y3, ?_, ?_, (y2 5 (by decide) (by decide) (by decide)).trans f0⟩
              · rw [y4]; unfold tkE; rw [if_neg (by omega), if_pos c102]
                rw [show b + 1 + (spF (fun j => isDg (h.2.1 3 j)) N (b + 1) - (b + 1)) = spF (fun j => isDg (h.2.1 3 j)) N (b + 1) by omega]
              · rw [y5]; unfold tkS; rw [if_neg (by omega), if_pos c102]
      · refine je_aload0 (pc := 82) d1003_82 rfl ?_
        refine je_iconst (pc := 83) (v := -1) d1003_83 rfl ?_
        refine ju_puti (pc := 84) d1003_84 jF_1_37 rfl (sK2 H1.wI) ?_
        refine je_goto (pc := 87) 229 d1003_87 (by decide) ?_
        refine je_ret (pc := 229) d1003_229 rfl ?_
        refine ⟨rfl, (x1.wI rfl).wI rfl, fun j a1 a2 a3 => by rw [wI_at, jx_up_ne _ _ a1, wI_at, jx_up_ne _ _ a3]; exact x2 j a1 a2 a3, ?_⟩
        unfold txA
        have z1 : N ≤ b := by omega
        refine ⟨?_, ?_, ?_, ?_, ?_⟩
        · rw [wI_at, jx_up_ne _ _ (by decide), wI_at, jx_up_ne _ _ (by decide)]; exact sz
        · rw [wI_at, jx_up_ne _ _ (by decide), wI_at, jx_up_ne _ _ (by decide)]; exact x3
        · rw [wI_at, jx_up_ne _ _ (by decide), wI_at, jx_up_self, if_neg (show ¬ b < N by omega)]; unfold tkE; rw [if_pos z1]
        · rw [wI_at, jx_up_self]; unfold tkS; rw [if_pos z1]
        · rw [wI_at, jx_up_ne _ _ (by decide), wI_at, jx_up_ne _ _ (by decide)]; exact (x2 5 (by decide) (by decide) (by decide)).trans f0
set_option maxHeartbeats 2000000 in
theorem t_Tx_advance_n (d : Nat) {bc bs : Nat} {h : jx_H} {f : Int32} (H : jx_St h) (hf : h.2.1 2 5 = f) (f0 : ¬ f = 0) : jx_Tr (d + 3) bc bs 1003 [.ref 2] h (fun r h' => r = none ∧ h' = h) := by
  refine jx_tr jM_Tx_advance rfl rfl (lv := [some (.ref 2)]) rfl ?_
  refine je_aload0 (pc := 0) d1003_0 rfl ?_
  refine ju_geti (pc := 1) d1003_1 jF_1_22 rfl (sK2 H) ?_
  refine ju_eqi (v := f) hf ?_
  refine je_ifeq (pc := 4) 8 d1003_4 (by decide) (fun c4 => absurd c4 f0) (fun c4 => ?_)
  refine je_ret (pc := 7) d1003_7 rfl ?_
  exact ⟨rfl, rfl⟩
