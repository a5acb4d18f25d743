/-! the model reads numbers -/
theorem dgs_out {T : Nat → Int32} {N b : Nat} (hb : b < N) (hd : isDg (T b) = true) : ¬ (b + dgs T N b < N ∧ isDg (T (b + dgs T N b)) = true) := by
  have so := sp_out (c := fun j => isDg (T j)) (N := N) (p := b + 1)
  have sl := sp_le (c := fun j => isDg (T j)) (N := N) (p := b + 1)
  have e : b + dgs T N b = spF (fun j => isDg (T j)) N (b + 1) := by
    unfold dgs tkE
    rw [if_neg (by omega), if_pos hd]
    omega
  rw [e]
  exact so
theorem dgs_N {T : Nat → Int32} {N b : Nat} (hb : b ≤ N) : b + dgs T N b = tkE T N b ∧ tkE T N b ≤ N := by
  have := tk_N (T := T) hb
  unfold dgs
  omega
theorem fv_s {k : Nat} (h : k < 5) : fv5 k = k ∧ fv5 (k + 1) = k + 1 := by
  unfold fv5
  constructor
  · rw [if_pos h]
  · split <;> omega
theorem fv_t {k : Nat} (h : 5 ≤ k) : fv5 (k + 1) = fv5 k := by
  unfold fv5
  rw [if_neg (by omega), if_neg (by omega)]
set_option maxHeartbeats 4000000 in
theorem t_Mo_digits (d : Nat) {bc bs : Nat} {h : jx_H} {N p : Nat} (H : jx_St h) (ht : h.2.1 253 27 = nI N) (hp : h.2.1 253 28 = nI p) (hN : N ≤ 400) (hpN : p ≤ 1000) (f0 : h.2.1 253 29 = 0) : jx_Tr (d + 3) bc bs 12016 [.ref 253, .int 99999] h (fun r h' => fC (fun b => b = 253) h h' ∧ (∀ j, j ≠ 28 → j ≠ 29 → h'.2.1 253 j = h.2.1 253 j) ∧ (¬ (p < N ∧ isDg (mT h p) = true) → r = some (.int 0) ∧ h'.2.1 253 28 = nI p ∧ h'.2.1 253 29 = fltI p 0) ∧ ((p < N ∧ isDg (mT h p) = true) → r = some (.int (nI (vlN (mT h) p (fv5 (dgs (mT h) N p))))) ∧ h'.2.1 253 28 = nI (tkE (mT h) N p) ∧ h'.2.1 253 29 = if 5 < dgs (mT h) N p then fltI p 1 else 0)) := by
  refine jx_tr jM_Mo_digits rfl rfl (lv := [some (.ref 253), some (.int 99999), none, none]) rfl ?_
  refine je_aload0 (pc := 0) d12016_0 rfl ?_
  refine ju_callv (pc := 1) (as := []) d12016_1 jL_12_257 jM_Mo_isDigit rfl (by decide) (sK253 H) rfl (by exact Nat.le_of_ble_eq_true rfl) (t_Mo_isDigit d H ht hp hN hpN) (fun r1 h1 q1 => ?_)
  obtain ⟨rfl, e1⟩ := q1
  obtain rfl := e1.symm
  refine jb_ifne (pc := 4) 18 d12016_4 (by decide) (fun c4 => ?_) (fun c4 => ?_)
  · refine je_aload0 (pc := 18) d12016_18 rfl ?_
    refine ju_geti (pc := 19) d12016_19 jF_12_217 rfl (sK253 H) ?_
    refine ju_eqi (v := nI p) hp ?_
    refine ju_istore2 (pc := 22) (lv' := [some _, some _, some _, none]) d12016_22 rfl rfl ?_
    refine je_iconst (pc := 23) (v := 0) d12016_23 rfl ?_
    refine ju_istore3 (pc := 24) (lv' := [some _, some _, some _, some _]) d12016_24 rfl rfl ?_
    have hd := c4
    refine je_loop (σ := Unit) (dgs (mT h) N p) (fun k xx => [some (.ref 253), some (.int 99999), some (.int (nI p)), some (.int (nI (vlN (mT h) p (fv5 k))))]) (fun k _ h' => fC (fun b => b = 253) h h' ∧ (∀ j, j ≠ 28 → j ≠ 29 → h'.2.1 253 j = h.2.1 253 j) ∧ h'.2.1 253 28 = nI (p + k) ∧ h'.2.1 253 29 = 0) (fun k xx h' hk e kk => ?_) (fun xx h' e => ?_) (0) () h (by omega) ⟨fC.rf, fun _ _ _ => rfl, hp, f0⟩
    · obtain ⟨x1, x2, x3, x4⟩ := e
      have H1 := x1.St H
      have t1 : h'.2.1 253 27 = nI N := (x2 27 (by decide) (by decide)).trans ht
      have et : ∀ j, mT h' j = mT h j := fun j => by unfold mT; rw [x1.2 280 (by decide)]
      have dn := dgs_N (T := mT h) (Nat.le_of_lt hd.1)
      have f5 : ∀ k, fv5 k ≤ 5 ∧ fv5 k ≤ k := fun k => by unfold fv5; split <;> omega
      have vl := vl_lt (T := mT h) (b := p) (k := fv5 (k)) (fun j hj => (dgN_e (dgs_in hd.1 hd.2 (j := j) (by have := f5 (k); omega)).2).1)
      have vp : 10 ^ fv5 (k) ≤ 10 ^ 5 := Nat.pow_le_pow_right (by decide) (f5 _).1
      have di := dgs_in hd.1 hd.2 hk
      have d1 := dgN_e di.2
      refine je_aload0 (pc := 25) d12016_25 rfl ?_
      refine ju_callv (pc := 26) (as := []) d12016_26 jL_12_257 jM_Mo_isDigit rfl (by decide) (sK253 H1) rfl (by exact Nat.le_of_ble_eq_true rfl) (t_Mo_isDigit d (N := N) (p := p + k) H1 t1 x3 hN (by omega)) (fun r26 h26 q26 => ?_)
      obtain ⟨rfl, e26⟩ := q26
      obtain rfl := e26.symm
      refine jb_ifeq (pc := 29) 72 d12016_29 (by decide) (fun c29 => absurd c29 (fun z => z ⟨di.1, by rw [et]; exact di.2⟩)) (fun c29 => ?_)
      refine je_aload0 (pc := 32) d12016_32 rfl ?_
      refine ju_geti (pc := 33) d12016_33 jF_12_217 rfl (sK253 H1) ?_
      refine ju_eqi (v := nI (p + k)) x3 ?_
      refine je_iload2 (pc := 36) d12016_36 rfl ?_
      refine je_isub (pc := 37) d12016_37 ?_
      refine ju_eqi (v := nI ((p + k) - (p))) (pk_sub (a := (p + k)) (b := (p)) (by omega)) ?_
      refine je_iconst (pc := 38) (v := 5) d12016_38 rfl ?_
      refine ju_tern2 (pc := 39) (V := nI (vlN (mT h) p (fv5 (k + 1)))) 58 ?_ (fun jn39 => ?_)
      · refine ju_istore3 (pc := 58) (lv' := [some _, some _, some _, some _]) d12016_58 rfl rfl ?_
        refine je_aload0 (pc := 59) d12016_59 rfl ?_
        refine je_dup (pc := 60) d12016_60 rfl ?_
        refine ju_geti (pc := 61) d12016_61 jF_12_217 rfl (sK253 H1) ?_
        refine ju_eqi (v := nI (p + k)) x3 ?_
        refine je_iconst (pc := 64) (v := 1) d12016_64 rfl ?_
        refine je_iadd (pc := 65) d12016_65 ?_
        refine ju_eqi (v := nI ((p + k) + 1)) (nI_add (p + k) 1) ?_
        refine ju_puti (pc := 66) d12016_66 jF_12_217 rfl (sK253 H1) ?_
        refine je_goto (pc := 69) 25 d12016_69 (by decide) ?_
        refine kk () _ ⟨x1.wI rfl, fun j a1 a2 => by rw [wI_at, jx_up_ne _ _ a1]; exact x2 j a1 a2, by rw [wI_at, jx_up_self]; rfl, by rw [wI_at, jx_up_ne _ _ (by decide)]; exact x4⟩
      · refine jn_icge (pc := 39) (a := ((p + k) - (p))) (b := 5) 57 d12016_39 (by decide) (by omega) (by omega) (fun c39 => ?_) (fun c39 => ?_)
        · refine je_iload3 (pc := 57) d12016_57 rfl ?_
          refine ju_eqi (v := nI (vlN (mT h) p (fv5 (k + 1)))) (by rw [fv_t (by omega)]) ?_
          exact jn39
        · refine je_bipush (pc := 42) (v := 10) d12016_42 rfl ?_
          refine je_iload3 (pc := 44) d12016_44 rfl ?_
          refine je_imul (pc := 45) d12016_45 ?_
          refine ju_eqi (v := nI (10 * (vlN (mT h) p (fv5 k)))) (pk_mul 10 (vlN (mT h) p (fv5 k))) ?_
          refine je_aload0 (pc := 46) d12016_46 rfl ?_
          refine ju_callv (pc := 47) (as := []) d12016_47 jL_12_220 jM_Mo_sign rfl (by decide) (sK253 H1) rfl (by exact Nat.le_of_ble_eq_true rfl) (t_Mo_sign (d + 1) (N := N) (p := p + k) H1 t1 x3 hN (by omega)) (fun r47 h47 q47 => ?_)
          obtain ⟨rfl, e47⟩ := q47
          obtain rfl := e47.symm
          refine ju_eqi (v := nI (48 + dgN (mT h) (p + k))) (by unfold mSg; rw [if_pos di.1, et]; exact d1.2) ?_
          refine je_iadd (pc := 50) d12016_50 ?_
          refine ju_eqi (v := nI ((10 * (vlN (mT h) p (fv5 k))) + (48 + dgN (mT h) (p + k)))) (nI_add (10 * (vlN (mT h) p (fv5 k))) (48 + dgN (mT h) (p + k))) ?_
          refine je_bipush (pc := 51) (v := 48) d12016_51 rfl ?_
          refine je_isub (pc := 53) d12016_53 ?_
          refine ju_eqi (v := nI (((10 * (vlN (mT h) p (fv5 k))) + (48 + dgN (mT h) (p + k))) - 48)) (pk_sub (a := ((10 * (vlN (mT h) p (fv5 k))) + (48 + dgN (mT h) (p + k)))) (b := 48) (by omega)) ?_
          refine je_goto (pc := 54) 58 d12016_54 (by decide) ?_
          refine ju_eqi (v := nI (vlN (mT h) p (fv5 (k + 1)))) (congrArg nI (by have q := fv_s (k := k) (by omega); rw [q.2, vlN, q.1]; omega)) ?_
          exact jn39
    · obtain ⟨x1, x2, x3, x4⟩ := e
      have H1 := x1.St H
      have t1 : h'.2.1 253 27 = nI N := (x2 27 (by decide) (by decide)).trans ht
      have et : ∀ j, mT h' j = mT h j := fun j => by unfold mT; rw [x1.2 280 (by decide)]
      have dn := dgs_N (T := mT h) (Nat.le_of_lt hd.1)
      have f5 : ∀ k, fv5 k ≤ 5 ∧ fv5 k ≤ k := fun k => by unfold fv5; split <;> omega
      have vl := vl_lt (T := mT h) (b := p) (k := fv5 (dgs (mT h) N p)) (fun j hj => (dgN_e (dgs_in hd.1 hd.2 (j := j) (by have := f5 (dgs (mT h) N p); omega)).2).1)
      have vp : 10 ^ fv5 (dgs (mT h) N p) ≤ 10 ^ 5 := Nat.pow_le_pow_right (by decide) (f5 _).1
      refine je_aload0 (pc := 25) d12016_25 rfl ?_
      refine ju_callv (pc := 26) (as := []) d12016_26 jL_12_257 jM_Mo_isDigit rfl (by decide) (sK253 H1) rfl (by exact Nat.le_of_ble_eq_true rfl) (t_Mo_isDigit d (N := N) (p := p + dgs (mT h) N p) H1 t1 x3 hN (by omega)) (fun r26 h26 q26 => ?_)
      obtain ⟨rfl, e26⟩ := q26
      obtain rfl := e26.symm
      refine jb_ifeq (pc := 29) 72 d12016_29 (by decide) (fun c29 => ?_) (fun c29 => absurd c29 (fun z => dgs_out hd.1 hd.2 ⟨z.1, by rw [et] at z; exact z.2⟩))
      refine je_aload0 (pc := 72) d12016_72 rfl ?_
      refine ju_geti (pc := 73) d12016_73 jF_12_217 rfl (sK253 H1) ?_
      refine ju_eqi (v := nI (p + dgs (mT h) N p)) x3 ?_
      refine je_iload2 (pc := 76) d12016_76 rfl ?_
      refine je_isub (pc := 77) d12016_77 ?_
      refine ju_eqi (v := nI ((p + dgs (mT h) N p) - (p))) (pk_sub (a := (p + dgs (mT h) N p)) (b := (p)) (by omega)) ?_
      refine je_iconst (pc := 78) (v := 5) d12016_78 rfl ?_
      refine jn_icgt (pc := 79) (a := ((p + dgs (mT h) N p) - (p))) (b := 5) 87 d12016_79 (by decide) (by omega) (by omega) (fun c79 => ?_) (fun c79 => ?_)
      · refine je_aload0 (pc := 87) d12016_87 rfl ?_
        refine je_iconst (pc := 88) (v := 1) d12016_88 rfl ?_
        refine je_iload2 (pc := 89) d12016_89 rfl ?_
        refine ju_callv (pc := 90) (as := [_, _]) d12016_90 jL_12_253 jM_Mo_fails rfl (by decide) (sK253 H1) rfl (by exact Nat.le_of_ble_eq_true rfl) (t_Mo_fails (d + 1) (q := p) (c := 1) H1 (by omega) (by decide)) (fun r90 h90 q90 => ?_)
        obtain ⟨rfl, eb⟩ := q90
        rw [x4, if_pos rfl] at eb
        refine je_iload3 (pc := 93) d12016_93 rfl ?_
        refine je_iret (pc := 94) d12016_94 rfl ?_
        refine ⟨?_, ?_, fun z => absurd hd z, fun _ => ⟨rfl, ?_, ?_⟩⟩
        · rw [eb]; exact x1.wI rfl
        · intro j a1 a2; rw [eb, wI_at, jx_up_ne _ _ a2]; exact x2 j a1 a2
        · rw [eb, wI_at, jx_up_ne _ _ (by decide), x3, dn.1]
        · rw [eb, wI_at, jx_up_self, if_pos (by omega)]
      · refine je_iload3 (pc := 82) d12016_82 rfl ?_
        refine je_iload1 (pc := 83) d12016_83 rfl ?_
        refine jn_icle (pc := 84) (a := (vlN (mT h) p (fv5 (dgs (mT h) N p)))) (b := 99999) 93 d12016_84 (by decide) (by omega) (by omega) (fun c84 => ?_) (fun c84 => ?_)
        · refine je_iload3 (pc := 93) d12016_93 rfl ?_
          refine je_iret (pc := 94) d12016_94 rfl ?_
          refine ⟨x1, x2, fun z => absurd hd z, fun _ => ⟨rfl, ?_, ?_⟩⟩
          · rw [x3, dn.1]
          · rw [x4, if_neg (by omega)]
        · refine je_aload0 (pc := 87) d12016_87 rfl ?_
          refine je_iconst (pc := 88) (v := 1) d12016_88 rfl ?_
          refine je_iload2 (pc := 89) d12016_89 rfl ?_
          refine ju_callv (pc := 90) (as := [_, _]) d12016_90 jL_12_253 jM_Mo_fails rfl (by decide) (sK253 H1) rfl (by exact Nat.le_of_ble_eq_true rfl) (t_Mo_fails (d + 1) (q := p) (c := 1) H1 (by omega) (by decide)) (fun r90 h90 q90 => ?_)
          obtain ⟨rfl, eb⟩ := q90
          rw [x4, if_pos rfl] at eb
          refine je_iload3 (pc := 93) d12016_93 rfl ?_
          refine je_iret (pc := 94) d12016_94 rfl ?_
          exfalso; omega
  · refine je_aload0 (pc := 7) d12016_7 rfl ?_
    refine je_iconst (pc := 8) (v := 0) d12016_8 rfl ?_
    refine je_aload0 (pc := 9) d12016_9 rfl ?_
    refine ju_geti (pc := 10) d12016_10 jF_12_217 rfl (sK253 H) ?_
    refine ju_eqi (v := nI p) hp ?_
    refine ju_callv (pc := 13) (as := [_, _]) d12016_13 jL_12_253 jM_Mo_fails rfl (by decide) (sK253 H) rfl (by exact Nat.le_of_ble_eq_true rfl) (t_Mo_fails (d + 1) (q := p) (c := 0) H hpN (by decide)) (fun r13 h13 q13 => ?_)
    obtain ⟨rfl, eb⟩ := q13
    rw [f0, if_pos rfl] at eb
    refine je_iconst (pc := 16) (v := 0) d12016_16 rfl ?_
    refine je_iret (pc := 17) d12016_17 rfl ?_
    refine ⟨?_, ?_, fun _ => ⟨rfl, ?_, ?_⟩, fun z => absurd z c4⟩
    · rw [eb]; exact fC.rf.wI rfl
    · intro j a1 a2; rw [eb, wI_at, jx_up_ne _ _ a2]
    · rw [eb, wI_at, jx_up_ne _ _ (by decide)]; exact hp
    · rw [eb, wI_at, jx_up_self]
