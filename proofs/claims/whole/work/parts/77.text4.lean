/-! the model reads signs -/
/-- the model's tape -/
def mT (h : jx_H) : Nat → Int32 := fun j => h.2.1 280 j &&& 255
theorem isDg_in (x : Int32) : b2 ((48 : Int64) ≤ x.toInt64 ∧ x.toInt64 ≤ (57 : Int64)) = b2 (isDg x = true) := by
  refine b2_c ?_
  rw [show (48 : Int64) = (48 : Int32).toInt64 from rfl, show (57 : Int64) = (57 : Int32).toInt64 from rfl, fa_wide_le, fa_wide_le, fa_le, fa_le]
  show _ ↔ decide _ = true
  rw [decide_eq_true_eq, fa_lt, fa_lt]
  omega
def mSg (h : jx_H) (N p : Nat) : Int32 := if p < N then mT h p else -1
set_option maxHeartbeats 2000000 in
theorem t_Mo_sign (d : Nat) {bc bs : Nat} {h : jx_H} {N p : Nat} (H : jx_St h) (ht : h.2.1 253 27 = nI N) (hp : h.2.1 253 28 = nI p) (hN : N ≤ 400) (hpN : p ≤ 1000) : jx_Tr (d + 1) bc bs 12009 [.ref 253] h (fun r h' => r = some (.int (mSg h N p)) ∧ h' = h) := by
  refine jx_tr jM_Mo_sign rfl rfl (lv := [some (.ref 253)]) rfl ?_
  refine je_aload0 (pc := 0) d12009_0 rfl ?_
  refine ju_geti (pc := 1) d12009_1 jF_12_217 rfl (sK253 H) ?_
  refine ju_eqi (v := nI p) hp ?_
  refine je_aload0 (pc := 4) d12009_4 rfl ?_
  refine ju_geti (pc := 5) d12009_5 jF_12_185 rfl (sK253 H) ?_
  refine ju_eqi (v := nI N) ht ?_
  refine jn_icge (pc := 8) (a := (p)) (b := (N)) 27 d12009_8 (by decide) (by omega) (by omega) (fun c8 => ?_) (fun c8 => ?_)
  · refine je_iconst (pc := 27) (v := -1) d12009_27 rfl ?_
    refine je_iret (pc := 28) d12009_28 rfl ?_
    exact ⟨by unfold mSg; rw [if_neg (by omega)], rfl⟩
  · refine je_aload0 (pc := 11) d12009_11 rfl ?_
    refine ju_getr (pc := 12) (b := 280) d12009_12 jF_12_92 rfl (sK253 H) (sR253_37 H) ?_
    refine je_aload0 (pc := 15) d12009_15 rfl ?_
    refine ju_geti (pc := 16) d12009_16 jF_12_217 rfl (sK253 H) ?_
    refine ju_eqi (v := nI p) hp ?_
    refine ju_bald (pc := 19) (jn := (p)) d12009_19 (sK280 H) (vp_in_nI (by omega) (by decide)) (nI_clamp (by omega)) ?_
    refine je_sipush (pc := 20) (v := 255) d12009_20 rfl ?_
    refine je_iand (pc := 23) d12009_23 ?_
    refine je_goto (pc := 24) 28 d12009_24 (by decide) ?_
    refine je_iret (pc := 28) d12009_28 rfl ?_
    exact ⟨by unfold mSg; rw [if_pos (by omega)]; rfl, rfl⟩
set_option maxHeartbeats 2000000 in
theorem t_Mo_blanks (d : Nat) {bc bs : Nat} {h : jx_H} {N p : Nat} (H : jx_St h) (ht : h.2.1 253 27 = nI N) (hp : h.2.1 253 28 = nI p) (hN : N ≤ 400) (hpN : p ≤ 1000) : jx_Tr (d + 2) bc bs 12008 [.ref 253] h (fun r h' => r = none ∧ fC (fun b => b = 253) h h' ∧ (∀ j, j ≠ 28 → h'.2.1 253 j = h.2.1 253 j) ∧ h'.2.1 253 28 = nI (skB (mT h) N p)) := by
  refine jx_tr jM_Mo_blanks rfl rfl (lv := [some (.ref 253)]) rfl ?_
  refine je_loop (σ := Unit) (spF (fun j => decide (mT h j = 32)) N p - p) (fun k xx => [some (.ref 253)]) (fun k _ h' => fC (fun b => b = 253) h h' ∧ (∀ j, j ≠ 28 → h'.2.1 253 j = h.2.1 253 j) ∧ h'.2.1 253 28 = nI (p + k)) (fun k xx h' hk e kk => ?_) (fun xx h' e => ?_) (0) () h (by omega) ⟨fC.rf, fun _ _ => rfl, hp⟩
  · obtain ⟨x1, x2, x3⟩ := e
    have H1 := x1.St H
    have t1 : h'.2.1 253 27 = nI N := (x2 27 (by decide)).trans ht
    have et : ∀ j, mT h' j = mT h j := fun j => by unfold mT; rw [x1.2 280 (by decide)]
    have si := sp_in (c := (fun j => decide (mT h j = 32))) (N := N) (p := p) (k := k) (by omega)
    refine je_aload0 (pc := 0) d12008_0 rfl ?_
    refine ju_callv (pc := 1) (as := []) d12008_1 jL_12_220 jM_Mo_sign rfl (by decide) (sK253 H1) rfl (by exact Nat.le_of_ble_eq_true rfl) (t_Mo_sign d (N := N) (p := p + k) H1 t1 x3 hN (by omega)) (fun r1 h1 q1 => ?_)
    obtain ⟨rfl, e1⟩ := q1
    obtain rfl := e1.symm
    refine je_bipush (pc := 4) (v := 32) d12008_4 rfl ?_
    refine je_icne (pc := 6) 22 d12008_6 (by decide) (fun c6 => absurd c6 (fun z => z (by unfold mSg; rw [if_pos si.1, et]; exact of_decide_eq_true si.2))) (fun c6 => ?_)
    refine je_aload0 (pc := 9) d12008_9 rfl ?_
    refine je_dup (pc := 10) d12008_10 rfl ?_
    refine ju_geti (pc := 11) d12008_11 jF_12_217 rfl (sK253 H1) ?_
    refine ju_eqi (v := nI (p + k)) x3 ?_
    refine je_iconst (pc := 14) (v := 1) d12008_14 rfl ?_
    refine je_iadd (pc := 15) d12008_15 ?_
    refine ju_eqi (v := nI ((p + k) + 1)) (nI_add (p + k) 1) ?_
    refine ju_puti (pc := 16) d12008_16 jF_12_217 rfl (sK253 H1) ?_
    refine je_goto (pc := 19) 0 d12008_19 (by decide) ?_
    refine kk () _ ⟨x1.wI rfl, fun j a1 => by rw [wI_at, jx_up_ne _ _ a1]; exact x2 j a1, by rw [wI_at, jx_up_self]; rfl⟩
  · obtain ⟨x1, x2, x3⟩ := e
    have H1 := x1.St H
    have t1 : h'.2.1 253 27 = nI N := (x2 27 (by decide)).trans ht
    have et : ∀ j, mT h' j = mT h j := fun j => by unfold mT; rw [x1.2 280 (by decide)]
    have so := sp_out (c := (fun j => decide (mT h j = 32))) (N := N) (p := p)
    have sl := sp_le (c := (fun j => decide (mT h j = 32))) (N := N) (p := p)
    have sn : spF (fun j => decide (mT h j = 32)) N p ≤ 1000 := by
      by_cases z : p ≤ N
      · have := sp_N (c := (fun j => decide (mT h j = 32))) z; omega
      · rw [sp_st (fun y => by omega)]; omega
    rw [show p + (spF (fun j => decide (mT h j = 32)) N p - p) = spF (fun j => decide (mT h j = 32)) N p by omega] at x3
    refine je_aload0 (pc := 0) d12008_0 rfl ?_
    refine ju_callv (pc := 1) (as := []) d12008_1 jL_12_220 jM_Mo_sign rfl (by decide) (sK253 H1) rfl (by exact Nat.le_of_ble_eq_true rfl) (t_Mo_sign d (N := N) (p := spF (fun j => decide (mT h j = 32)) N p) H1 t1 x3 hN (by omega)) (fun r1 h1 q1 => ?_)
    obtain ⟨rfl, e1⟩ := q1
    obtain rfl := e1.symm
    refine je_bipush (pc := 4) (v := 32) d12008_4 rfl ?_
    refine je_icne (pc := 6) 22 d12008_6 (by decide) (fun c6 => ?_) (fun c6 => absurd c6 (fun q => so (by
      unfold mSg at q
      split at q
      · rename_i c; rw [et] at q; exact ⟨c, decide_eq_true q⟩
      · exact absurd q (by decide))))
    refine je_ret (pc := 22) d12008_22 rfl ?_
    exact ⟨rfl, x1, x2, x3⟩
set_option maxHeartbeats 2000000 in
theorem t_Mo_isDigit (d : Nat) {bc bs : Nat} {h : jx_H} {N p : Nat} (H : jx_St h) (ht : h.2.1 253 27 = nI N) (hp : h.2.1 253 28 = nI p) (hN : N ≤ 400) (hpN : p ≤ 1000) : jx_Tr (d + 2) bc bs 12017 [.ref 253] h (fun r h' => r = some (.int (b2 (p < N ∧ isDg (mT h p) = true))) ∧ h' = h) := by
  refine jx_tr jM_Mo_isDigit rfl rfl (lv := [some (.ref 253)]) rfl ?_
  refine je_aload0 (pc := 0) d12017_0 rfl ?_
  refine ju_callv (pc := 1) (as := []) d12017_1 jL_12_220 jM_Mo_sign rfl (by decide) (sK253 H) rfl (by exact Nat.le_of_ble_eq_true rfl) (t_Mo_sign d H ht hp hN hpN) (fun r1 h1 q1 => ?_)
  obtain ⟨rfl, e1⟩ := q1
  obtain rfl := e1.symm
  refine je_i2l (pc := 4) d12017_4 ?_
  refine je_ldc2 (pc := 5) d12017_5 jK_12_224 ?_
  refine je_ldc2 (pc := 8) d12017_8 jK_12_226 ?_
  refine ju_calls (pc := 11) (as := [_, _, _]) d12017_11 jL_12_170 jM_Mo_in rfl rfl (by exact Nat.le_of_ble_eq_true rfl) (t_Mo_in (d + 0) _ _ _) (fun r11 h11 q11 => ?_)
  obtain ⟨rfl, e11⟩ := q11
  obtain rfl := e11.symm
  refine ju_eqi (v := b2 (p < N ∧ isDg (mT h p) = true)) ((isDg_in (mSg h N p)).trans (b2_c (by
    unfold mSg
    by_cases z : p < N
    · rw [if_pos z]; exact ⟨fun y => ⟨z, y⟩, fun y => y.2⟩
    · rw [if_neg z]; exact ⟨fun y => absurd y (by decide), fun y => absurd y.1 z⟩))) ?_
  refine je_zret (pc := 14) d12017_14 rfl (b2_01 _) ?_
  exact ⟨rfl, rfl⟩
set_option maxHeartbeats 2000000 in
theorem t_Mo_fails (d : Nat) {bc bs : Nat} {h : jx_H} {q : Nat} {c : Nat} (H : jx_St h) (hq : q ≤ 1000) (hc : c ≤ 4) : jx_Tr (d + 1) bc bs 12012 [.ref 253, .int (nI c), .int (nI q)] h (fun r h' => r = none ∧ h' = jx_wI h 253 29 (if h.2.1 253 29 = 0 then fltI q c else h.2.1 253 29)) := by
  refine jx_tr jM_Mo_fails rfl rfl (lv := [some (.ref 253), some (.int (nI c)), some (.int (nI q))]) rfl ?_
  refine je_aload0 (pc := 0) d12012_0 rfl ?_
  refine je_aload0 (pc := 1) d12012_1 rfl ?_
  refine ju_geti (pc := 2) d12012_2 jF_12_214 rfl (sK253 H) ?_
  refine ju_tern1 (pc := 5) (V := (if h.2.1 253 29 = 0 then fltI q c else h.2.1 253 29)) 23 ?_ (fun jn5 => ?_)
  · refine ju_puti (pc := 23) d12012_23 jF_12_214 rfl (sK253 H) ?_
    refine je_ret (pc := 26) d12012_26 rfl ?_
    exact ⟨rfl, rfl⟩
  · refine je_ifne (pc := 5) 19 d12012_5 (by decide) (fun c5 => ?_) (fun c5 => ?_)
    · refine je_aload0 (pc := 19) d12012_19 rfl ?_
      refine ju_geti (pc := 20) d12012_20 jF_12_214 rfl (sK253 H) ?_
      refine ju_eqi (v := (if h.2.1 253 29 = 0 then fltI q c else h.2.1 253 29)) (by rw [if_neg c5]) ?_
      exact jn5
    · refine je_iconst (pc := 8) (v := 1) d12012_8 rfl ?_
      refine je_bipush (pc := 9) (v := 8) d12012_9 rfl ?_
      refine je_iload2 (pc := 11) d12012_11 rfl ?_
      refine je_imul (pc := 12) d12012_12 ?_
      refine ju_eqi (v := nI (8 * (q))) (pk_mul 8 (q)) ?_
      refine je_iadd (pc := 13) d12012_13 ?_
      refine ju_eqi (v := nI (1 + (8 * (q)))) (nI_add 1 (8 * (q))) ?_
      refine je_iload1 (pc := 14) d12012_14 rfl ?_
      refine je_iadd (pc := 15) d12012_15 ?_
      refine ju_eqi (v := nI ((1 + (8 * (q))) + (c))) (nI_add (1 + (8 * (q))) (c)) ?_
      refine je_goto (pc := 16) 23 d12012_16 (by decide) ?_
      refine ju_eqi (v := (if h.2.1 253 29 = 0 then fltI q c else h.2.1 253 29)) (by rw [if_pos c5]; rfl) ?_
      exact jn5
