/-! acts are remembered, taken back -/
theorem ju_copy {d bc bs i pc : Nat} {lv : List (Option Value)} {st : List Value} {h : jx_H} {Q : Option Value → jx_H → Prop} {x a0 a n0 n1 sp dp n : Nat} (hd : decode (jm_b i) pc = .ok (.invokestatic x, 3)) (hk : jx_Lac (jm_o i) x) (ha0 : h.1[a0]? = some (.inl (1, n0))) (ha : h.1[a]? = some (.inl (1, n1))) (b1 : sp < 2 ^ 31) (b2 : dp < 2 ^ 31) (b3 : n < 2 ^ 31) (h4 : sp + n ≤ n0) (h5 : dp + n ≤ n1) (hs : (st.map fun v => v.category).sum ≤ 8) (k : jx_Ev (d + 1) bc bs i (pc + 3) lv st (jx_cpI h a0 sp a dp n) Q) : jx_Ev (d + 1) bc bs i pc lv (.int (nI n) :: .int (nI dp) :: .ref a :: .int (nI sp) :: .ref a0 :: st) h Q :=
  je_copy hd hk ha0 ha (nI_pos b1) (nI_pos b2) (nI_pos b3) (by rw [nI_clamp b1, nI_clamp b3]; exact h4) (by rw [nI_clamp b2, nI_clamp b3]; exact h5) hs (by rw [nI_clamp b1, nI_clamp b2, nI_clamp b3]) k
theorem nI_sub {a b c : Nat} (h : a = c + b) : nI a - nI b = nI c := by rw [h, pk_sub (by omega), Nat.add_sub_cancel]
/-- a land, written into a row -/
def wrR (g l d s c : Nat → Int32) (q : Nat) (bk ng : Int32) : Nat → Int32 := jx_up (jx_up (va_cpy c (va_cpy s (va_cpy d (va_cpy l g 0 q 10) 0 (q + 10) 10) 0 (q + 20) 10) 0 (q + 30) 8) (q + 38) bk) (q + 39) ng
theorem wrR_in (g l d s c : Nat → Int32) (q : Nat) (bk ng : Int32) {L : ML} (h1 : ∀ m, m < 10 → l m = L.1 m) (h2 : ∀ m, m < 10 → d m = L.2.1 m) (h3 : ∀ m, m < 10 → s m = L.2.2.1 m) (h4 : ∀ m, m < 8 → c m = L.2.2.2.1 m) (h5 : bk = L.2.2.2.2.1) (h6 : ng = L.2.2.2.2.2) : cP (fun j => wrR g l d s c q bk ng (q + j)) L := by
  have z1 : ∀ m, m < 10 → wrR g l d s c q bk ng (q + m) = l m := fun m hm => by
    unfold wrR
    rw [jx_up_ne _ _ (by omega), jx_up_ne _ _ (by omega), pk_cpy_out (by omega), pk_cpy_out (by omega), pk_cpy_out (by omega), pk_cpy_in (by omega) (by omega), show 0 + (q + m - q) = m by omega]
  have z2 : ∀ m, m < 10 → wrR g l d s c q bk ng (q + (10 + m)) = d m := fun m hm => by
    unfold wrR
    rw [jx_up_ne _ _ (by omega), jx_up_ne _ _ (by omega), pk_cpy_out (by omega), pk_cpy_out (by omega), pk_cpy_in (by omega) (by omega), show 0 + (q + (10 + m) - (q + 10)) = m by omega]
  have z3 : ∀ m, m < 10 → wrR g l d s c q bk ng (q + (20 + m)) = s m := fun m hm => by
    unfold wrR
    rw [jx_up_ne _ _ (by omega), jx_up_ne _ _ (by omega), pk_cpy_out (by omega), pk_cpy_in (by omega) (by omega), show 0 + (q + (20 + m) - (q + 20)) = m by omega]
  have z4 : ∀ m, m < 8 → wrR g l d s c q bk ng (q + (30 + m)) = c m := fun m hm => by
    unfold wrR
    rw [jx_up_ne _ _ (by omega), jx_up_ne _ _ (by omega), pk_cpy_in (by omega) (by omega), show 0 + (q + (30 + m) - (q + 30)) = m by omega]
  refine ⟨fun m hm => ⟨(z1 m hm).trans (h1 m hm), (z2 m hm).trans (h2 m hm), (z3 m hm).trans (h3 m hm)⟩, fun m hm => (z4 m hm).trans (h4 m hm), ?_, ?_⟩
  · show wrR g l d s c q bk ng (q + 38) = _
    unfold wrR
    rw [jx_up_ne _ _ (by omega), jx_up_self]; exact h5
  · show wrR g l d s c q bk ng (q + 39) = _
    unfold wrR
    rw [jx_up_self]; exact h6
theorem wrR_out (g l d s c : Nat → Int32) (q : Nat) (bk ng : Int32) {i : Nat} (h : i < q ∨ q + 40 ≤ i) : wrR g l d s c q bk ng i = g i := by
  unfold wrR
  rw [jx_up_ne _ _ (by omega), jx_up_ne _ _ (by omega), pk_cpy_out (by omega), pk_cpy_out (by omega), pk_cpy_out (by omega), pk_cpy_out (by omega)]
set_option maxHeartbeats 2000000 in
theorem t_La_writeTo (d : Nat) {bc bs : Nat} {h : jx_H} {a b q : Nat} (A : jx_La h a) (Bk : h.1[b]? = some (.inl (1, 800))) (hq : q + 40 ≤ 800) (hne : ∀ c, a ≤ c → c ≤ a + 4 → c ≠ b) : jx_Tr (d + 2) bc bs 4003 [.ref a, .ref b, .int (nI q)] h (fun r h' => r = none ∧ fC (fun c => c = b) h h' ∧ h'.2.1 b = wrR (h.2.1 b) (h.2.1 (a + 1)) (h.2.1 (a + 2)) (h.2.1 (a + 3)) (h.2.1 (a + 4)) q (h.2.1 a 4) (h.2.1 a 5)) := by
  refine jx_tr jM_La_writeTo rfl rfl (lv := [some (.ref a), some (.ref b), some (.int (nI q))]) rfl ?_
  refine je_aload0 (pc := 0) d4003_0 rfl ?_
  refine ju_getr (pc := 1) (b := (a + 1)) d4003_1 jF_4_9 rfl A.1 A.2.1.2 ?_
  refine je_iconst (pc := 4) (v := 0) d4003_4 rfl ?_
  refine je_aload1 (pc := 5) d4003_5 rfl ?_
  refine je_iload2 (pc := 6) d4003_6 rfl ?_
  refine je_bipush (pc := 7) (v := 10) d4003_7 rfl ?_
  refine ju_copy (pc := 9) (sp := 0) (dp := (q)) (n := 10) d4003_9 jLac_4_24 A.2.1.1 Bk (by omega) (by omega) (by omega) (by omega) (by omega) (by exact Nat.le_of_ble_eq_true rfl) ?_
  refine je_aload0 (pc := 12) d4003_12 rfl ?_
  refine ju_getr (pc := 13) (b := (a + 2)) d4003_13 jF_4_15 rfl A.cp.1 A.cp.2.2.1.2 ?_
  refine je_iconst (pc := 16) (v := 0) d4003_16 rfl ?_
  refine je_aload1 (pc := 17) d4003_17 rfl ?_
  refine je_iload2 (pc := 18) d4003_18 rfl ?_
  refine je_bipush (pc := 19) (v := 10) d4003_19 rfl ?_
  refine je_iadd (pc := 21) d4003_21 ?_
  refine ju_eqi (v := nI (q + 10)) (nI_add q 10) ?_
  refine je_bipush (pc := 22) (v := 10) d4003_22 rfl ?_
  refine ju_copy (pc := 24) (sp := 0) (dp := (q + 10)) (n := 10) d4003_24 jLac_4_24 A.cp.2.2.1.1 Bk (by omega) (by omega) (by omega) (by omega) (by omega) (by exact Nat.le_of_ble_eq_true rfl) ?_
  refine je_aload0 (pc := 27) d4003_27 rfl ?_
  refine ju_getr (pc := 28) (b := (a + 3)) d4003_28 jF_4_18 rfl A.cp.cp.1 A.cp.cp.2.2.2.1.2 ?_
  refine je_iconst (pc := 31) (v := 0) d4003_31 rfl ?_
  refine je_aload1 (pc := 32) d4003_32 rfl ?_
  refine je_iload2 (pc := 33) d4003_33 rfl ?_
  refine je_bipush (pc := 34) (v := 20) d4003_34 rfl ?_
  refine je_iadd (pc := 36) d4003_36 ?_
  refine ju_eqi (v := nI (q + 20)) (nI_add q 20) ?_
  refine je_bipush (pc := 37) (v := 10) d4003_37 rfl ?_
  refine ju_copy (pc := 39) (sp := 0) (dp := (q + 20)) (n := 10) d4003_39 jLac_4_24 A.cp.cp.2.2.2.1.1 Bk (by omega) (by omega) (by omega) (by omega) (by omega) (by exact Nat.le_of_ble_eq_true rfl) ?_
  refine je_aload0 (pc := 42) d4003_42 rfl ?_
  refine ju_getr (pc := 43) (b := (a + 4)) d4003_43 jF_4_21 rfl A.cp.cp.cp.1 A.cp.cp.cp.2.2.2.2.2 ?_
  refine je_iconst (pc := 46) (v := 0) d4003_46 rfl ?_
  refine je_aload1 (pc := 47) d4003_47 rfl ?_
  refine je_iload2 (pc := 48) d4003_48 rfl ?_
  refine je_bipush (pc := 49) (v := 30) d4003_49 rfl ?_
  refine je_iadd (pc := 51) d4003_51 ?_
  refine ju_eqi (v := nI (q + 30)) (nI_add q 30) ?_
  refine je_bipush (pc := 52) (v := 8) d4003_52 rfl ?_
  refine ju_copy (pc := 54) (sp := 0) (dp := (q + 30)) (n := 8) d4003_54 jLac_4_24 A.cp.cp.cp.2.2.2.2.1 Bk (by omega) (by omega) (by omega) (by omega) (by omega) (by exact Nat.le_of_ble_eq_true rfl) ?_
  refine je_aload1 (pc := 57) d4003_57 rfl ?_
  refine je_iload2 (pc := 58) d4003_58 rfl ?_
  refine je_bipush (pc := 59) (v := 40) d4003_59 rfl ?_
  refine je_iadd (pc := 61) d4003_61 ?_
  refine ju_eqi (v := nI (q + 40)) (nI_add q 40) ?_
  refine je_iconst (pc := 62) (v := 2) d4003_62 rfl ?_
  refine je_isub (pc := 63) d4003_63 ?_
  refine ju_eqi (v := nI (q + 38)) (nI_sub (b := 2) (by omega)) ?_
  refine je_aload0 (pc := 64) d4003_64 rfl ?_
  refine ju_geti (pc := 65) d4003_65 jF_4_30 rfl A.cp.cp.cp.cp.1 ?_
  refine ju_iast (pc := 68) (jn := (q + 38)) d4003_68 Bk (vp_in_nI (by omega) (by decide)) (nI_clamp (by omega)) ?_
  refine je_aload1 (pc := 69) d4003_69 rfl ?_
  refine je_iload2 (pc := 70) d4003_70 rfl ?_
  refine je_bipush (pc := 71) (v := 40) d4003_71 rfl ?_
  refine je_iadd (pc := 73) d4003_73 ?_
  refine ju_eqi (v := nI (q + 40)) (nI_add q 40) ?_
  refine je_iconst (pc := 74) (v := 1) d4003_74 rfl ?_
  refine je_isub (pc := 75) d4003_75 ?_
  refine ju_eqi (v := nI (q + 39)) (nI_sub (b := 1) (by omega)) ?_
  refine je_aload0 (pc := 76) d4003_76 rfl ?_
  refine ju_geti (pc := 77) d4003_77 jF_4_34 rfl A.cp.cp.cp.cp.wI.1 ?_
  refine ju_iast (pc := 80) (jn := (q + 39)) d4003_80 Bk (vp_in_nI (by omega) (by decide)) (nI_clamp (by omega)) ?_
  refine je_ret (pc := 81) d4003_81 rfl ?_
  refine ⟨rfl, ((((((fC.rf (A := fun c => c = b)).cp (by exact rfl)).cp (by exact rfl)).cp (by exact rfl)).cp (by exact rfl)).wI (by exact rfl)).wI (by exact rfl), ?_⟩
  have e1 := hne (a + 1) (by omega) (by omega)
  have e2 := hne (a + 2) (by omega) (by omega)
  have e3 := hne (a + 3) (by omega) (by omega)
  have e4 := hne (a + 4) (by omega) (by omega)
  have e0 := hne a (by omega) (by omega)
  simp only [wI_at, cpI_at, cpI_ne _ _ _ _ _ e1, cpI_ne _ _ _ _ _ e2, cpI_ne _ _ _ _ _ e3, cpI_ne _ _ _ _ _ e4, cpI_ne _ _ _ _ _ e0, wI_ne _ _ _ e0]
  rfl
set_option maxHeartbeats 2000000 in
theorem t_La_readFrom (d : Nat) {bc bs : Nat} {h : jx_H} {a b q : Nat} (A : jx_La h a) (Bk : h.1[b]? = some (.inl (1, 800))) (hq : q + 40 ≤ 800) (hne : ∀ c, a ≤ c → c ≤ a + 4 → c ≠ b) : jx_Tr (d + 2) bc bs 4006 [.ref a, .ref b, .int (nI q)] h (fun r h' => r = none ∧ fC (fun c => a ≤ c ∧ c ≤ a + 4) h h' ∧ ∀ L, cP (fun j => h.2.1 b (q + j)) L → rL h'.2.1 a L) := by
  refine jx_tr jM_La_readFrom rfl rfl (lv := [some (.ref a), some (.ref b), some (.int (nI q))]) rfl ?_
  refine je_aload1 (pc := 0) d4006_0 rfl ?_
  refine je_iload2 (pc := 1) d4006_1 rfl ?_
  refine je_aload0 (pc := 2) d4006_2 rfl ?_
  refine ju_getr (pc := 3) (b := (a + 1)) d4006_3 jF_4_9 rfl A.1 A.2.1.2 ?_
  refine je_iconst (pc := 6) (v := 0) d4006_6 rfl ?_
  refine je_bipush (pc := 7) (v := 10) d4006_7 rfl ?_
  refine ju_copy (pc := 9) (sp := (q)) (dp := 0) (n := 10) d4006_9 jLac_4_24 Bk A.2.1.1 (by omega) (by omega) (by omega) (by omega) (by omega) (by exact Nat.le_of_ble_eq_true rfl) ?_
  refine je_aload1 (pc := 12) d4006_12 rfl ?_
  refine je_iload2 (pc := 13) d4006_13 rfl ?_
  refine je_bipush (pc := 14) (v := 10) d4006_14 rfl ?_
  refine je_iadd (pc := 16) d4006_16 ?_
  refine ju_eqi (v := nI (q + 10)) (nI_add q 10) ?_
  refine je_aload0 (pc := 17) d4006_17 rfl ?_
  refine ju_getr (pc := 18) (b := (a + 2)) d4006_18 jF_4_15 rfl A.cp.1 A.cp.2.2.1.2 ?_
  refine je_iconst (pc := 21) (v := 0) d4006_21 rfl ?_
  refine je_bipush (pc := 22) (v := 10) d4006_22 rfl ?_
  refine ju_copy (pc := 24) (sp := (q + 10)) (dp := 0) (n := 10) d4006_24 jLac_4_24 Bk A.cp.2.2.1.1 (by omega) (by omega) (by omega) (by omega) (by omega) (by exact Nat.le_of_ble_eq_true rfl) ?_
  refine je_aload1 (pc := 27) d4006_27 rfl ?_
  refine je_iload2 (pc := 28) d4006_28 rfl ?_
  refine je_bipush (pc := 29) (v := 20) d4006_29 rfl ?_
  refine je_iadd (pc := 31) d4006_31 ?_
  refine ju_eqi (v := nI (q + 20)) (nI_add q 20) ?_
  refine je_aload0 (pc := 32) d4006_32 rfl ?_
  refine ju_getr (pc := 33) (b := (a + 3)) d4006_33 jF_4_18 rfl A.cp.cp.1 A.cp.cp.2.2.2.1.2 ?_
  refine je_iconst (pc := 36) (v := 0) d4006_36 rfl ?_
  refine je_bipush (pc := 37) (v := 10) d4006_37 rfl ?_
  refine ju_copy (pc := 39) (sp := (q + 20)) (dp := 0) (n := 10) d4006_39 jLac_4_24 Bk A.cp.cp.2.2.2.1.1 (by omega) (by omega) (by omega) (by omega) (by omega) (by exact Nat.le_of_ble_eq_true rfl) ?_
  refine je_aload1 (pc := 42) d4006_42 rfl ?_
  refine je_iload2 (pc := 43) d4006_43 rfl ?_
  refine je_bipush (pc := 44) (v := 30) d4006_44 rfl ?_
  refine je_iadd (pc := 46) d4006_46 ?_
  refine ju_eqi (v := nI (q + 30)) (nI_add q 30) ?_
  refine je_aload0 (pc := 47) d4006_47 rfl ?_
  refine ju_getr (pc := 48) (b := (a + 4)) d4006_48 jF_4_21 rfl A.cp.cp.cp.1 A.cp.cp.cp.2.2.2.2.2 ?_
  refine je_iconst (pc := 51) (v := 0) d4006_51 rfl ?_
  refine je_bipush (pc := 52) (v := 8) d4006_52 rfl ?_
  refine ju_copy (pc := 54) (sp := (q + 30)) (dp := 0) (n := 8) d4006_54 jLac_4_24 Bk A.cp.cp.cp.2.2.2.2.1 (by omega) (by omega) (by omega) (by omega) (by omega) (by exact Nat.le_of_ble_eq_true rfl) ?_
  refine je_aload0 (pc := 57) d4006_57 rfl ?_
  refine je_aload1 (pc := 58) d4006_58 rfl ?_
  refine je_iload2 (pc := 59) d4006_59 rfl ?_
  refine je_bipush (pc := 60) (v := 40) d4006_60 rfl ?_
  refine je_iadd (pc := 62) d4006_62 ?_
  refine ju_eqi (v := nI (q + 40)) (nI_add q 40) ?_
  refine je_iconst (pc := 63) (v := 2) d4006_63 rfl ?_
  refine je_isub (pc := 64) d4006_64 ?_
  refine ju_eqi (v := nI (q + 38)) (nI_sub (b := 2) (by omega)) ?_
  refine ju_iald (pc := 65) (jn := (q + 38)) d4006_65 Bk (vp_in_nI (by omega) (by decide)) (nI_clamp (by omega)) ?_
  refine ju_puti (pc := 66) d4006_66 jF_4_30 rfl A.cp.cp.cp.cp.1 ?_
  refine je_aload0 (pc := 69) d4006_69 rfl ?_
  refine je_aload1 (pc := 70) d4006_70 rfl ?_
  refine je_iload2 (pc := 71) d4006_71 rfl ?_
  refine je_bipush (pc := 72) (v := 40) d4006_72 rfl ?_
  refine je_iadd (pc := 74) d4006_74 ?_
  refine ju_eqi (v := nI (q + 40)) (nI_add q 40) ?_
  refine je_iconst (pc := 75) (v := 1) d4006_75 rfl ?_
  refine je_isub (pc := 76) d4006_76 ?_
  refine ju_eqi (v := nI (q + 39)) (nI_sub (b := 1) (by omega)) ?_
  refine ju_iald (pc := 77) (jn := (q + 39)) d4006_77 Bk (vp_in_nI (by omega) (by decide)) (nI_clamp (by omega)) ?_
  refine ju_puti (pc := 78) d4006_78 jF_4_34 rfl A.cp.cp.cp.cp.wI.1 ?_
  refine je_ret (pc := 81) d4006_81 rfl ?_
  refine ⟨rfl, (((((fC.rf.cp (by omega)).cp (by omega)).cp (by omega)).cp (by omega)).wI (by omega)).wI (by omega), fun L hL => ?_⟩
  have e1 := Ne.symm (hne (a + 1) (by omega) (by omega))
  have e2 := Ne.symm (hne (a + 2) (by omega) (by omega))
  have e3 := Ne.symm (hne (a + 3) (by omega) (by omega))
  have e4 := Ne.symm (hne (a + 4) (by omega) (by omega))
  have e0 := Ne.symm (hne a (by omega) (by omega))
  obtain ⟨c1, c2, c3, c4⟩ := hL
  unfold rL
  simp only [wI_at, wI_ne _ _ _ e0, wI_ne _ _ _ (show a + 1 ≠ a by omega), wI_ne _ _ _ (show a + 2 ≠ a by omega), wI_ne _ _ _ (show a + 3 ≠ a by omega), wI_ne _ _ _ (show a + 4 ≠ a by omega), cpI_at, cpI_ne _ _ _ _ _ e1, cpI_ne _ _ _ _ _ e2, cpI_ne _ _ _ _ _ e3, cpI_ne _ _ _ _ _ e4, cpI_ne _ _ _ _ _ (show a + 1 ≠ a + 2 by omega), cpI_ne _ _ _ _ _ (show a + 1 ≠ a + 3 by omega), cpI_ne _ _ _ _ _ (show a + 1 ≠ a + 4 by omega), cpI_ne _ _ _ _ _ (show a + 2 ≠ a + 1 by omega), cpI_ne _ _ _ _ _ (show a + 2 ≠ a + 3 by omega), cpI_ne _ _ _ _ _ (show a + 2 ≠ a + 4 by omega), cpI_ne _ _ _ _ _ (show a + 3 ≠ a + 1 by omega), cpI_ne _ _ _ _ _ (show a + 3 ≠ a + 2 by omega), cpI_ne _ _ _ _ _ (show a + 3 ≠ a + 4 by omega), cpI_ne _ _ _ _ _ (show a + 4 ≠ a + 1 by omega), cpI_ne _ _ _ _ _ (show a + 4 ≠ a + 2 by omega), cpI_ne _ _ _ _ _ (show a + 4 ≠ a + 3 by omega)]
  refine ⟨fun m hm => ?_, fun m hm => ?_, fun m hm => ?_, fun m hm => ?_, ?_, ?_⟩
  · rw [pk_cpy_in (by omega) (by omega), Nat.sub_zero]; exact (c1 m hm).1
  · rw [pk_cpy_in (by omega) (by omega), Nat.sub_zero, Nat.add_assoc]; exact (c1 m hm).2.1
  · rw [pk_cpy_in (by omega) (by omega), Nat.sub_zero, Nat.add_assoc]; exact (c1 m hm).2.2
  · rw [pk_cpy_in (by omega) (by omega), Nat.sub_zero, Nat.add_assoc]; exact c2 m hm
  · rw [jx_up_ne _ _ (by decide), jx_up_self]; exact c3
  · rw [jx_up_self]; exact c4
set_option maxHeartbeats 2000000 in
theorem t_La_copyFrom (d : Nat) {bc bs : Nat} {h : jx_H} {a b : Nat} (A : jx_La h a) (B : jx_La h b) (hne : a + 4 < b ∨ b + 4 < a) : jx_Tr (d + 2) bc bs 4001 [.ref a, .ref b] h (fun r h' => r = none ∧ fC (fun c => a ≤ c ∧ c ≤ a + 4) h h' ∧ ∀ L, rL h.2.1 b L → rL h'.2.1 a L) := by
  refine jx_tr jM_La_copyFrom rfl rfl (lv := [some (.ref a), some (.ref b)]) rfl ?_
  refine je_aload1 (pc := 0) d4001_0 rfl ?_
  refine ju_getr (pc := 1) (b := (b + 1)) d4001_1 jF_4_9 rfl B.1 B.2.1.2 ?_
  refine je_iconst (pc := 4) (v := 0) d4001_4 rfl ?_
  refine je_aload0 (pc := 5) d4001_5 rfl ?_
  refine ju_getr (pc := 6) (b := (a + 1)) d4001_6 jF_4_9 rfl A.1 A.2.1.2 ?_
  refine je_iconst (pc := 9) (v := 0) d4001_9 rfl ?_
  refine je_bipush (pc := 10) (v := 10) d4001_10 rfl ?_
  refine ju_copy (pc := 12) (sp := 0) (dp := 0) (n := 10) d4001_12 jLac_4_24 B.2.1.1 A.2.1.1 (by omega) (by omega) (by omega) (by omega) (by omega) (by exact Nat.le_of_ble_eq_true rfl) ?_
  refine je_aload1 (pc := 15) d4001_15 rfl ?_
  refine ju_getr (pc := 16) (b := (b + 2)) d4001_16 jF_4_15 rfl B.cp.1 B.cp.2.2.1.2 ?_
  refine je_iconst (pc := 19) (v := 0) d4001_19 rfl ?_
  refine je_aload0 (pc := 20) d4001_20 rfl ?_
  refine ju_getr (pc := 21) (b := (a + 2)) d4001_21 jF_4_15 rfl A.cp.1 A.cp.2.2.1.2 ?_
  refine je_iconst (pc := 24) (v := 0) d4001_24 rfl ?_
  refine je_bipush (pc := 25) (v := 10) d4001_25 rfl ?_
  refine ju_copy (pc := 27) (sp := 0) (dp := 0) (n := 10) d4001_27 jLac_4_24 B.cp.2.2.1.1 A.cp.2.2.1.1 (by omega) (by omega) (by omega) (by omega) (by omega) (by exact Nat.le_of_ble_eq_true rfl) ?_
  refine je_aload1 (pc := 30) d4001_30 rfl ?_
  refine ju_getr (pc := 31) (b := (b + 3)) d4001_31 jF_4_18 rfl B.cp.cp.1 B.cp.cp.2.2.2.1.2 ?_
  refine je_iconst (pc := 34) (v := 0) d4001_34 rfl ?_
  refine je_aload0 (pc := 35) d4001_35 rfl ?_
  refine ju_getr (pc := 36) (b := (a + 3)) d4001_36 jF_4_18 rfl A.cp.cp.1 A.cp.cp.2.2.2.1.2 ?_
  refine je_iconst (pc := 39) (v := 0) d4001_39 rfl ?_
  refine je_bipush (pc := 40) (v := 10) d4001_40 rfl ?_
  refine ju_copy (pc := 42) (sp := 0) (dp := 0) (n := 10) d4001_42 jLac_4_24 B.cp.cp.2.2.2.1.1 A.cp.cp.2.2.2.1.1 (by omega) (by omega) (by omega) (by omega) (by omega) (by exact Nat.le_of_ble_eq_true rfl) ?_
  refine je_aload1 (pc := 45) d4001_45 rfl ?_
  refine ju_getr (pc := 46) (b := (b + 4)) d4001_46 jF_4_21 rfl B.cp.cp.cp.1 B.cp.cp.cp.2.2.2.2.2 ?_
  refine je_iconst (pc := 49) (v := 0) d4001_49 rfl ?_
  refine je_aload0 (pc := 50) d4001_50 rfl ?_
  refine ju_getr (pc := 51) (b := (a + 4)) d4001_51 jF_4_21 rfl A.cp.cp.cp.1 A.cp.cp.cp.2.2.2.2.2 ?_
  refine je_iconst (pc := 54) (v := 0) d4001_54 rfl ?_
  refine je_bipush (pc := 55) (v := 8) d4001_55 rfl ?_
  refine ju_copy (pc := 57) (sp := 0) (dp := 0) (n := 8) d4001_57 jLac_4_24 B.cp.cp.cp.2.2.2.2.1 A.cp.cp.cp.2.2.2.2.1 (by omega) (by omega) (by omega) (by omega) (by omega) (by exact Nat.le_of_ble_eq_true rfl) ?_
  refine je_aload0 (pc := 60) d4001_60 rfl ?_
  refine je_aload1 (pc := 61) d4001_61 rfl ?_
  refine ju_geti (pc := 62) d4001_62 jF_4_30 rfl B.cp.cp.cp.cp.1 ?_
  refine ju_puti (pc := 65) d4001_65 jF_4_30 rfl A.cp.cp.cp.cp.1 ?_
  refine je_aload0 (pc := 68) d4001_68 rfl ?_
  refine je_aload1 (pc := 69) d4001_69 rfl ?_
  refine ju_geti (pc := 70) d4001_70 jF_4_34 rfl B.cp.cp.cp.cp.wI.1 ?_
  refine ju_puti (pc := 73) d4001_73 jF_4_34 rfl A.cp.cp.cp.cp.wI.1 ?_
  refine je_ret (pc := 76) d4001_76 rfl ?_
  refine ⟨rfl, (((((fC.rf.cp (by omega)).cp (by omega)).cp (by omega)).cp (by omega)).wI (by omega)).wI (by omega), fun L hL => ?_⟩
  obtain ⟨c1, c2, c3, c4, c5, c6⟩ := hL
  unfold rL
  simp only [wI_at, wI_ne _ _ _ (show b ≠ a by omega), wI_ne _ _ _ (show a + 1 ≠ a by omega), wI_ne _ _ _ (show a + 2 ≠ a by omega), wI_ne _ _ _ (show a + 3 ≠ a by omega), wI_ne _ _ _ (show a + 4 ≠ a by omega), cpI_at, cpI_ne _ _ _ _ _ (show b + 2 ≠ a + 1 by omega), cpI_ne _ _ _ _ _ (show b + 3 ≠ a + 1 by omega), cpI_ne _ _ _ _ _ (show b + 3 ≠ a + 2 by omega), cpI_ne _ _ _ _ _ (show b + 4 ≠ a + 1 by omega), cpI_ne _ _ _ _ _ (show b + 4 ≠ a + 2 by omega), cpI_ne _ _ _ _ _ (show b + 4 ≠ a + 3 by omega), cpI_ne _ _ _ _ _ (show b ≠ a + 1 by omega), cpI_ne _ _ _ _ _ (show b ≠ a + 2 by omega), cpI_ne _ _ _ _ _ (show b ≠ a + 3 by omega), cpI_ne _ _ _ _ _ (show b ≠ a + 4 by omega), cpI_ne _ _ _ _ _ (show a + 1 ≠ a + 2 by omega), cpI_ne _ _ _ _ _ (show a + 1 ≠ a + 3 by omega), cpI_ne _ _ _ _ _ (show a + 1 ≠ a + 4 by omega), cpI_ne _ _ _ _ _ (show a + 2 ≠ a + 3 by omega), cpI_ne _ _ _ _ _ (show a + 2 ≠ a + 4 by omega), cpI_ne _ _ _ _ _ (show a + 3 ≠ a + 4 by omega)]
  refine ⟨fun m hm => ?_, fun m hm => ?_, fun m hm => ?_, fun m hm => ?_, ?_, ?_⟩
  · rw [pk_cpy_in (by omega) (by omega), Nat.sub_zero, Nat.zero_add]; exact c1 m hm
  · rw [pk_cpy_in (by omega) (by omega), Nat.sub_zero, Nat.zero_add]; exact c2 m hm
  · rw [pk_cpy_in (by omega) (by omega), Nat.sub_zero, Nat.zero_add]; exact c3 m hm
  · rw [pk_cpy_in (by omega) (by omega), Nat.sub_zero, Nat.zero_add]; exact c4 m hm
  · rw [jx_up_ne _ _ (by decide), jx_up_self]; exact c5
  · rw [jx_up_self]; exact c6
