/-! peace: the class -/
/-- miles looked at -/
def IV (S : MS) (R : Option MR) (L : ML) (n B k x : Nat) : Prop := x ≤ k ∧ (∀ m, x ≤ m → m < k → B.testBit m = false) ∧ (x = 0 ∨ B.testBit (x - 1) = true ∨ x = S.1.1 + 1) ∧ (k = S.1.1 + 1 → x = k) ∧ ∀ v, v < S.1.2.1 → vM S v < x → unx S R (bkL B L) n v
theorem vM_lt {S : MS} (wS : wfS S) {v : Nat} (hv : v < S.1.2.1) (hmi : S.1.1 ≤ 10) : vM S v < S.1.1 := by
  obtain ⟨⟨m, hm, e⟩, -⟩ := wS.2.2.2.2.2.1 v hv
  rw [vM_of (by omega) e]; exact hm
section IVs
variable {S : MS} {R : Option MR} {L : ML} {n B k x : Nat}
theorem IV.cl (wS : wfS S) (hmi : S.1.1 ≤ 10) (hb : ∀ m, m < 10 → bdI (L.1 m) (-20) 20) (hB : B < 2 ^ S.1.1) (q : IV S R L n B k x) (hx : x < k) (hk : k ≤ S.1.1) (ee : k = S.1.1 ∨ B.testBit k = true) : clm S R L n x k ↔ ∀ v, v < S.1.2.1 → x ≤ vM S v → vM S v < k → unx S R (bkL B L) n v := by
  have ag := ag_ot (L := L) hmi hk hx hB q.2.1 (fun m h1 h2 => by
    rcases h2 with h2 | h2
    · rcases q.2.2.1 with z | z | z
      · omega
      · rw [show m = x - 1 by omega]; exact z
      · omega
    · rw [h2]; exact ee.resolve_left (by omega))
  show ctF S R _ n = 0 ↔ _
  rw [ct_0]
  constructor
  · intro h v hv a1 a2; exact (unx_ag hk hmi ag a1 a2).mpr (h v hv)
  · intro h v hv
    have vm := vM_lt wS hv hmi
    by_cases c : x ≤ vM S v ∧ vM S v < k
    · exact (unx_ag hk hmi ag c.1 c.2).mp (h v hv c.1 c.2)
    · have o := ot_c S.1.1 (by omega) k (by omega) x hx (vM S v) vm
      have p10 : 2 ^ S.1.1 ≤ 2 ^ 10 := Nat.pow_le_pow_right (by decide) hmi
      refine unx_bk hmi hb (by omega) ?_
      show bkd (nI (otB S.1.1 x k)) (nI (vM S v))
      rw [bkd_B (by omega) (by omega), o.1]
      exact decide_eq_true c
theorem IV.go (wS : wfS S) (hmi : S.1.1 ≤ 10) (hb : ∀ m, m < 10 → bdI (L.1 m) (-20) 20) (hB : B < 2 ^ S.1.1) (q : IV S R L n B k x) (hk : k ≤ S.1.1) (ee : k = S.1.1 ∨ B.testBit k = true) (h : x < k → ∀ v, v < S.1.2.1 → x ≤ vM S v → vM S v < k → unx S R (bkL B L) n v) : IV S R L n B (k + 1) (k + 1) := by
  refine ⟨Nat.le_refl _, fun m h1 h2 => by omega, ?_, fun _ => rfl, fun v hv hm => ?_⟩
  · rcases ee with z | z
    · exact Or.inr (Or.inr (by omega))
    · exact Or.inr (Or.inl z)
  · have vm := vM_lt wS hv hmi
    by_cases c : vM S v < x
    · exact q.2.2.2.2 v hv c
    · by_cases c2 : vM S v < k
      · exact h (by omega) v hv (by omega) c2
      · have p10 : 2 ^ S.1.1 ≤ 2 ^ 10 := Nat.pow_le_pow_right (by decide) hmi
        refine unx_bk hmi hb (by omega) ?_
        show bkd (nI B) (nI (vM S v))
        rw [bkd_B (by omega) (by omega), show vM S v = k by omega]
        exact ee.resolve_left (by omega)
end IVs
set_option maxHeartbeats 8000000 in
theorem t_Ol_isPeace (d : Nat) {bc bs : Nat} {h : jx_H} {S : MS} {R : Option MR} {L : ML} {nn : Nat} (H : jx_St h) (C : cLaw h S R) (wS : wfS S) (h0 : 0 < S.1.1) (hL : rL h.2.1 40 L) (hN : L.2.2.2.2.2 = nI nn) {B0 n : Nat} (hmi : S.1.1 ≤ 10) (hb : ∀ m, m < 10 → bdI (L.1 m) (-20) 20) (hB0 : B0 < 2 ^ S.1.1) (eB : L.2.2.2.2.1 = nI B0) (hn : n ≤ 60) (hnn : nn + n < 998) {q : Nat} (hq : q < 2 ^ S.1.1) (ca : cOk S R L n h) : jx_Tr (d + 6) bc bs 9007 [.ref 67, .ref 40, .int (nI q), .int (nI n)] h (fun r h' => r = some (.int (b2 (ctF S R (bkL (B0 ||| q) L) n = 0))) ∧ fC (fun b => b = 65 ∨ 68 ≤ b ∧ b ≤ 72 ∨ b = 78) h h' ∧ cOk S R L n h') := by
  refine jx_tr jM_Ol_isPeace rfl rfl (lv := [some (.ref 67), some (.ref 40), some (.int (nI q)), some (.int (nI n)), none, none, none, none]) rfl ?_
  obtain ⟨s, c1, c2, c3, c4, -⟩ := id C
  have hB : B0 ||| q < 2 ^ S.1.1 := Nat.or_lt_two_pow hB0 hq
  generalize eBq : B0 ||| q = B at hB ⊢
  have p10 : 2 ^ S.1.1 ≤ 2 ^ 10 := Nat.pow_le_pow_right (by decide) hmi
  refine je_aload0 (pc := 0) d9007_0 rfl ?_
  refine ju_getr (pc := 1) (b := 51) d9007_1 jF_9_25 rfl (sK67 H) (sR67_0 H) ?_
  refine ju_getr (pc := 4) (b := s) d9007_4 jF_9_64 rfl (sK51 H) c1 ?_
  refine ju_geti (pc := 7) d9007_7 jF_9_82 rfl c3.1.1 ?_
  refine ju_eqi (v := nI S.1.1) c4.1.1 ?_
  refine ju_istore (pc := 10) (lv' := [some _, some _, some _, some _, some _, none, none, none]) d9007_10 rfl rfl ?_
  refine je_aload1 (pc := 12) d9007_12 rfl ?_
  refine ju_geti (pc := 13) d9007_13 jF_9_61 rfl (sK40 H) ?_
  refine ju_eqi (v := nI B0) (hL.2.2.2.2.1.trans eB) ?_
  refine je_iload2 (pc := 16) d9007_16 rfl ?_
  refine je_ior (pc := 17) d9007_17 ?_
  refine ju_eqi (v := nI B) (by rw [fa_or, eBq]) ?_
  refine ju_istore (pc := 18) (lv' := [some _, some _, some _, some _, some _, some _, none, none]) d9007_18 rfl rfl ?_
  refine je_iconst (pc := 20) (v := 0) d9007_20 rfl ?_
  refine ju_istore (pc := 21) (lv' := [some _, some _, some _, some _, some _, some _, some _, none]) d9007_21 rfl rfl ?_
  refine je_iconst (pc := 23) (v := 0) d9007_23 rfl ?_
  refine ju_istore (pc := 24) (lv' := [some _, some _, some _, some _, some _, some _, some _, some _]) d9007_24 rfl rfl ?_
  refine je_loop (σ := Nat) (S.1.1 + 1) (fun k xx => [some (.ref 67), some (.ref 40), some (.int (nI q)), some (.int (nI n)), some (.int (nI S.1.1)), some (.int (nI B)), some (.int (nI xx)), some (.int (nI k))]) (fun k xx h' => IV S R L n B k xx ∧ fC (fun b => b = 65 ∨ 68 ≤ b ∧ b ≤ 72 ∨ b = 78) h h' ∧ cOk S R L n h') (fun k xx h' hk e kk => ?_) (fun xx h' e => ?_) (0) 0 h (by omega) ⟨⟨Nat.le_refl _, fun m h1 h2 => by omega, Or.inl rfl, fun z => by omega, fun v _ z => by omega⟩, fC.rf, ca⟩
  · obtain ⟨e1, e2, e3⟩ := e
    have H1 := e2.St H
    have C1 := C.fr e2 (fun b hb => olA (by omega))
    have L1 : rL h'.2.1 40 L := hL.of (fun b h1 h2 => e2.2 b (by omega))
    have xk := e1.1
    have zq : B / 2 ^ k ≤ B := Nat.div_le_self _ _
    refine je_iload (pc := 26) d9007_26 rfl ?_
    refine je_iload (pc := 28) d9007_28 rfl ?_
    refine jn_icgt (pc := 30) (a := (k)) (b := (S.1.1)) 84 d9007_30 (by decide) (by omega) (by omega) (fun c30 => by exfalso; omega) (fun c30 => ?_)
    refine je_iload (pc := 33) d9007_33 rfl ?_
    refine je_iload (pc := 35) d9007_35 rfl ?_
    refine jn_iceq (pc := 37) (a := (k)) (b := (S.1.1)) 50 d9007_37 (by decide) (by omega) (by omega) (fun c37 => ?_) (fun c37 => ?_)
    · have ee : k = S.1.1 ∨ B.testBit k = true := by first | exact Or.inl c37 | exact Or.inr (by rw [Nat.testBit_eq_decide_div_mod_eq]; exact decide_eq_true (by omega))
      refine je_iload (pc := 50) d9007_50 rfl ?_
      refine je_iload (pc := 52) d9007_52 rfl ?_
      refine jn_icge (pc := 54) (a := (xx)) (b := (k)) 72 d9007_54 (by decide) (by omega) (by omega) (fun c54 => ?_) (fun c54 => ?_)
      · refine je_iload (pc := 72) d9007_72 rfl ?_
        refine je_iconst (pc := 74) (v := 1) d9007_74 rfl ?_
        refine je_iadd (pc := 75) d9007_75 ?_
        refine ju_eqi (v := nI ((k) + 1)) (nI_add (k) 1) ?_
        refine ju_istore (pc := 76) (lv' := [some _, some _, some _, some _, some _, some _, some _, some _]) d9007_76 rfl rfl ?_
        refine ju_incN (pc := 78) (v := nI ((k) + 1)) (lv' := [some _, some _, some _, some _, some _, some _, some _, some _]) d9007_78 rfl (nI_1 (k)) rfl ?_
        refine je_goto (pc := 81) 26 d9007_81 (by decide) ?_
        exact kk (k + 1) _ ⟨e1.go wS hmi hb hB (by omega) ee (fun z => by omega), e2, e3⟩
      · refine je_aload0 (pc := 57) d9007_57 rfl ?_
        refine je_aload1 (pc := 58) d9007_58 rfl ?_
        refine je_iload (pc := 59) d9007_59 rfl ?_
        refine je_iload (pc := 61) d9007_61 rfl ?_
        refine je_iload3 (pc := 63) d9007_63 rfl ?_
        refine ju_callv (pc := 64) (as := [_, _, _, _]) d9007_64 jL_9_95 jM_Ol_isCalm rfl (by decide) (sK67 H1) rfl (by exact Nat.le_of_ble_eq_true rfl) (t_Ol_isCalm d (a := xx) (z := k) H1 C1 wS h0 L1 hN hmi (by omega) (by omega) hn hnn e3) (fun r64 h64 q64 => ?_)
        obtain ⟨rfl, f1, f2⟩ := q64
        have H2 := f1.St H1
        refine jb_ifne (pc := 67) 72 d9007_67 (by decide) (fun c67 => ?_) (fun c67 => ?_)
        · refine je_iload (pc := 72) d9007_72 rfl ?_
          refine je_iconst (pc := 74) (v := 1) d9007_74 rfl ?_
          refine je_iadd (pc := 75) d9007_75 ?_
          refine ju_eqi (v := nI ((k) + 1)) (nI_add (k) 1) ?_
          refine ju_istore (pc := 76) (lv' := [some _, some _, some _, some _, some _, some _, some _, some _]) d9007_76 rfl rfl ?_
          refine ju_incN (pc := 78) (v := nI ((k) + 1)) (lv' := [some _, some _, some _, some _, some _, some _, some _, some _]) d9007_78 rfl (nI_1 (k)) rfl ?_
          refine je_goto (pc := 81) 26 d9007_81 (by decide) ?_
          exact kk (k + 1) _ ⟨e1.go wS hmi hb hB (by omega) ee (fun z => (e1.cl wS hmi hb hB (by omega) (by omega) ee).mp c67), e2.tr f1, f2⟩
        · refine je_iconst (pc := 70) (v := 0) d9007_70 rfl ?_
          refine je_zret (pc := 71) d9007_71 rfl (Or.inl rfl) ?_
          exact ⟨by rw [b2_f (fun z => c67 ((e1.cl wS hmi hb hB (by omega) (by omega) ee).mpr (fun v hv _ _ => ct_0.mp z v hv)))], e2.tr f1, f2⟩
    · refine je_iload (pc := 40) d9007_40 rfl ?_
      refine je_iload (pc := 42) d9007_42 rfl ?_
      refine je_ishr (pc := 44) d9007_44 ?_
      refine ju_eqi (v := nI (B / 2 ^ k)) (sh_r (by omega) (by omega)) ?_
      refine je_iconst (pc := 45) (v := 1) d9007_45 rfl ?_
      refine je_iand (pc := 46) d9007_46 ?_
      refine ju_eqi (v := nI (B / 2 ^ k % 2)) (pk_andN (by omega) 1 (by decide)) ?_
      refine jn_ifeq (pc := 47) (a := (B / 2 ^ k % 2)) 78 d9007_47 (by decide) (by omega) (fun c47 => ?_) (fun c47 => ?_)
      · refine ju_incN (pc := 78) (v := nI ((k) + 1)) (lv' := [some _, some _, some _, some _, some _, some _, some _, some _]) d9007_78 rfl (nI_1 (k)) rfl ?_
        refine je_goto (pc := 81) 26 d9007_81 (by decide) ?_
        refine kk xx _ ⟨⟨by omega, fun m h1 h2 => ?_, e1.2.2.1, fun z => by omega, e1.2.2.2.2⟩, e2, e3⟩
        by_cases c : m = k
        · rw [c, Nat.testBit_eq_decide_div_mod_eq]; exact decide_eq_false (by omega)
        · exact e1.2.1 m h1 (by omega)
      · have ee : k = S.1.1 ∨ B.testBit k = true := by first | exact Or.inl c37 | exact Or.inr (by rw [Nat.testBit_eq_decide_div_mod_eq]; exact decide_eq_true (by omega))
        refine je_iload (pc := 50) d9007_50 rfl ?_
        refine je_iload (pc := 52) d9007_52 rfl ?_
        refine jn_icge (pc := 54) (a := (xx)) (b := (k)) 72 d9007_54 (by decide) (by omega) (by omega) (fun c54 => ?_) (fun c54 => ?_)
        · refine je_iload (pc := 72) d9007_72 rfl ?_
          refine je_iconst (pc := 74) (v := 1) d9007_74 rfl ?_
          refine je_iadd (pc := 75) d9007_75 ?_
          refine ju_eqi (v := nI ((k) + 1)) (nI_add (k) 1) ?_
          refine ju_istore (pc := 76) (lv' := [some _, some _, some _, some _, some _, some _, some _, some _]) d9007_76 rfl rfl ?_
          refine ju_incN (pc := 78) (v := nI ((k) + 1)) (lv' := [some _, some _, some _, some _, some _, some _, some _, some _]) d9007_78 rfl (nI_1 (k)) rfl ?_
          refine je_goto (pc := 81) 26 d9007_81 (by decide) ?_
          exact kk (k + 1) _ ⟨e1.go wS hmi hb hB (by omega) ee (fun z => by omega), e2, e3⟩
        · refine je_aload0 (pc := 57) d9007_57 rfl ?_
          refine je_aload1 (pc := 58) d9007_58 rfl ?_
          refine je_iload (pc := 59) d9007_59 rfl ?_
          refine je_iload (pc := 61) d9007_61 rfl ?_
          refine je_iload3 (pc := 63) d9007_63 rfl ?_
          refine ju_callv (pc := 64) (as := [_, _, _, _]) d9007_64 jL_9_95 jM_Ol_isCalm rfl (by decide) (sK67 H1) rfl (by exact Nat.le_of_ble_eq_true rfl) (t_Ol_isCalm d (a := xx) (z := k) H1 C1 wS h0 L1 hN hmi (by omega) (by omega) hn hnn e3) (fun r64 h64 q64 => ?_)
          obtain ⟨rfl, f1, f2⟩ := q64
          have H2 := f1.St H1
          refine jb_ifne (pc := 67) 72 d9007_67 (by decide) (fun c67 => ?_) (fun c67 => ?_)
          · refine je_iload (pc := 72) d9007_72 rfl ?_
            refine je_iconst (pc := 74) (v := 1) d9007_74 rfl ?_
            refine je_iadd (pc := 75) d9007_75 ?_
            refine ju_eqi (v := nI ((k) + 1)) (nI_add (k) 1) ?_
            refine ju_istore (pc := 76) (lv' := [some _, some _, some _, some _, some _, some _, some _, some _]) d9007_76 rfl rfl ?_
            refine ju_incN (pc := 78) (v := nI ((k) + 1)) (lv' := [some _, some _, some _, some _, some _, some _, some _, some _]) d9007_78 rfl (nI_1 (k)) rfl ?_
            refine je_goto (pc := 81) 26 d9007_81 (by decide) ?_
            exact kk (k + 1) _ ⟨e1.go wS hmi hb hB (by omega) ee (fun z => (e1.cl wS hmi hb hB (by omega) (by omega) ee).mp c67), e2.tr f1, f2⟩
          · refine je_iconst (pc := 70) (v := 0) d9007_70 rfl ?_
            refine je_zret (pc := 71) d9007_71 rfl (Or.inl rfl) ?_
            exact ⟨by rw [b2_f (fun z => c67 ((e1.cl wS hmi hb hB (by omega) (by omega) ee).mpr (fun v hv _ _ => ct_0.mp z v hv)))], e2.tr f1, f2⟩
  · obtain ⟨e1, e2, e3⟩ := e
    have H1 := e2.St H
    refine je_iload (pc := 26) d9007_26 rfl ?_
    refine je_iload (pc := 28) d9007_28 rfl ?_
    refine jn_icgt (pc := 30) (a := ((S.1.1 + 1))) (b := (S.1.1)) 84 d9007_30 (by decide) (by omega) (by omega) (fun c30 => ?_) (fun c30 => by exfalso; omega)
    refine je_iconst (pc := 84) (v := 1) d9007_84 rfl ?_
    refine je_zret (pc := 85) d9007_85 rfl (Or.inr rfl) ?_
    exact ⟨by rw [b2_t (ct_0.mpr (fun v hv => e1.2.2.2.2 v hv (by have := vM_lt wS hv hmi; have := e1.2.2.2.1 rfl; omega)))], e2, e3⟩
/-- the best of sets -/
def bsF (vd : Nat → Bool) : Nat → Option Nat
  | 0 => none
  | q + 1 => match bsF vd q with
    | none => if vd q = true then some q else none
    | some b => if vd q = true ∧ pop 10 q < pop 10 b then some q else some b
theorem bs_n {vd : Nat → Bool} {q : Nat} (h : bsF vd q = none) : bsF vd (q + 1) = if vd q = true then some q else none := by rw [bsF, h]
theorem bs_s {vd : Nat → Bool} {q b : Nat} (h : bsF vd q = some b) : bsF vd (q + 1) = if vd q = true ∧ pop 10 q < pop 10 b then some q else some b := by rw [bsF, h]
def bsP (vd : Nat → Bool) (k : Nat) : Option Nat → Prop
  | none => ∀ q, q < k → vd q = false
  | some b => b < k ∧ vd b = true ∧ ∀ q, q < k → vd q = true → pop 10 b < pop 10 q ∨ (pop 10 b = pop 10 q ∧ b ≤ q)
theorem bs_sp (vd : Nat → Bool) : ∀ k, bsP vd k (bsF vd k)
  | 0 => fun q hq => absurd hq (Nat.not_lt_zero q)
  | k + 1 => by
    have ih := bs_sp vd k
    match e : bsF vd k, ih with
    | none, ih =>
      rw [bs_n e]
      split
      · rename_i c
        refine ⟨by omega, c, fun q hq hv => ?_⟩
        by_cases z : q = k
        · exact Or.inr ⟨by rw [z], by omega⟩
        · have := ih q (by omega)
          rw [hv] at this
          exact absurd this (by decide)
      · rename_i c
        intro q hq
        by_cases z : q = k
        · rw [z]; exact Bool.eq_false_iff.mpr c
        · exact ih q (by omega)
    | some b, ih =>
      rw [bs_s e]
      obtain ⟨i1, i2, i3⟩ := ih
      split
      · rename_i c
        refine ⟨by omega, c.1, fun q hq hv => ?_⟩
        by_cases z : q = k
        · exact Or.inr ⟨by rw [z], by omega⟩
        · have := i3 q (by omega) hv
          exact Or.inl (by omega)
      · rename_i c
        refine ⟨by omega, i2, fun q hq hv => ?_⟩
        by_cases z : q = k
        · subst z
          have : ¬ pop 10 q < pop 10 b := fun y => c ⟨hv, y⟩
          omega
        · exact i3 q (by omega) hv
theorem bs_u {vd : Nat → Bool} {k : Nat} : ∀ {o o' : Option Nat}, bsP vd k o → bsP vd k o' → o = o'
  | none, none, _, _ => rfl
  | none, some b, h, h' => by have := h b h'.1; rw [h'.2.1] at this; exact absurd this (by decide)
  | some b, none, h, h' => by have := h' b h.1; rw [h.2.1] at this; exact absurd this (by decide)
  | some b, some c, h, h' => by
    have a1 := h.2.2 c h'.1 h'.2.1
    have a2 := h'.2.2 b h.1 h.2.1
    have : b = c := by omega
    rw [this]
def vdB (S : MS) (R : Option MR) (L : ML) (n B0 q : Nat) : Bool := decide (q &&& B0 = 0 ∧ ctF S R (bkL (B0 ||| q) L) n = 0)
def psC : Option Nat → Int32
  | none => -1
  | some q => nI q
theorem pop_mi {q mi : Nat} (h : q < 2 ^ mi) (hm : mi ≤ 10) : pop 10 q ≤ mi := by
  rw [pop_cnt, fa_cnt_stop (n := mi) hm (fun i h1 _ => Nat.testBit_lt_two_pow (Nat.lt_of_lt_of_le h (Nat.pow_le_pow_right (by decide) h1)))]
  exact fa_cnt_le _ _
theorem and_le {a b k : Nat} (h : a < 2 ^ k) : a &&& b < 2 ^ k := Nat.lt_of_le_of_lt Nat.and_le_left h
set_option maxHeartbeats 8000000 in
theorem t_Ol_peaceSet (d : Nat) {bc bs : Nat} {h : jx_H} {S : MS} {R : Option MR} {L : ML} {nn : Nat} (H : jx_St h) (C : cLaw h S R) (wS : wfS S) (h0 : 0 < S.1.1) (hL : rL h.2.1 40 L) (hN : L.2.2.2.2.2 = nI nn) {B0 n : Nat} (hmi : S.1.1 ≤ 10) (hb : ∀ m, m < 10 → bdI (L.1 m) (-20) 20) (hB0 : B0 < 2 ^ S.1.1) (eB : L.2.2.2.2.1 = nI B0) (hn : n ≤ 60) (hnn : nn + n < 998) : jx_Tr (d + 7) bc bs 9006 [.ref 67, .ref 40, .int (nI n)] h (fun r h' => r = some (.int (psC (bsF (vdB S R L n B0) (2 ^ S.1.1)))) ∧ fC (fun b => b = 65 ∨ 68 ≤ b ∧ b ≤ 72 ∨ b = 78) h h') := by
  refine jx_tr jM_Ol_peaceSet rfl rfl (lv := [some (.ref 67), some (.ref 40), some (.int (nI n)), none, none, none, none]) rfl ?_
  have p10 : 2 ^ S.1.1 ≤ 2 ^ 10 := Nat.pow_le_pow_right (by decide) hmi
  refine je_aload0 (pc := 0) d9006_0 rfl ?_
  refine ju_getr (pc := 1) (b := 78) d9006_1 jF_9_21 rfl (sK67 H) (sR67_3 H) ?_
  refine je_iconst (pc := 4) (v := 0) d9006_4 rfl ?_
  refine ju_calls (pc := 5) (as := [_, _]) d9006_5 jL_9_76 jM_Arr_fill rfl rfl (by exact Nat.le_of_ble_eq_true rfl) (t_Arr_fill (d + 5) (a := 78) (n := 110) (sK78 H) (by decide)) (fun r5 h5 q5 => ?_)
  obtain ⟨rfl, f1, f2⟩ := q5
  have H0 := f1.St H
  have C0 := C.fr f1 (fun b hb => olA (by omega))
  obtain ⟨s, c1, c2, c3, c4, -⟩ := id C0
  refine je_iconst (pc := 8) (v := 1) d9006_8 rfl ?_
  refine je_aload0 (pc := 9) d9006_9 rfl ?_
  refine ju_getr (pc := 10) (b := 51) d9006_10 jF_9_25 rfl (sK67 H0) (sR67_0 H0) ?_
  refine ju_getr (pc := 13) (b := s) d9006_13 jF_9_64 rfl (sK51 H0) c1 ?_
  refine ju_geti (pc := 16) d9006_16 jF_9_82 rfl c3.1.1 ?_
  refine ju_eqi (v := nI S.1.1) c4.1.1 ?_
  refine je_ishl (pc := 19) d9006_19 ?_
  refine ju_eqi (v := nI (2 ^ S.1.1)) (sh1 _ (by omega)) ?_
  refine ju_istore3 (pc := 20) (lv' := [some _, some _, some _, some _, none, none, none]) d9006_20 rfl rfl ?_
  refine je_iconst (pc := 21) (v := 0) d9006_21 rfl ?_
  refine ju_istore (pc := 22) (lv' := [some _, some _, some _, some _, some _, none, none]) d9006_22 rfl rfl ?_
  refine je_loop (σ := Option Value × Option Value) (S.1.1 + 1) (fun k xx => [some (.ref 67), some (.ref 40), some (.int (nI n)), some (.int (nI (2 ^ S.1.1))), some (.int (nI k)), xx.1, xx.2]) (fun k _ h' => fC (fun b => b = 65 ∨ 68 ≤ b ∧ b ≤ 72 ∨ b = 78) h h' ∧ cOk S R L n h' ∧ ∀ q, q < 2 ^ S.1.1 → vdB S R L n B0 q = true → ¬ pop 10 q < k) (fun k xx h' hk e kk => ?_) (fun xx h' e => ?_) (0) (none, none) _ (by omega) ⟨f1.mo (fun b hb => by omega), fun a z h1 h2 => Or.inl (f2 _ (by omega)), fun q _ _ => Nat.not_lt_zero _⟩
  · obtain ⟨e1, e2, e3⟩ := e
    have H1 := e1.St H
    have C1 := C.fr e1 (fun b hb => olA (by omega))
    obtain ⟨s, c1, c2, c3, c4, -⟩ := id C1
    refine je_iload (pc := 24) d9006_24 rfl ?_
    refine je_aload0 (pc := 26) d9006_26 rfl ?_
    refine ju_getr (pc := 27) (b := 51) d9006_27 jF_9_25 rfl (sK67 H1) (sR67_0 H1) ?_
    refine ju_getr (pc := 30) (b := s) d9006_30 jF_9_64 rfl (sK51 H1) c1 ?_
    refine ju_geti (pc := 33) d9006_33 jF_9_82 rfl c3.1.1 ?_
    refine ju_eqi (v := nI S.1.1) c4.1.1 ?_
    refine jn_icgt (pc := 36) (a := (k)) (b := (S.1.1)) 106 d9006_36 (by decide) (by omega) (by omega) (fun c36 => by exfalso; omega) (fun c36 => ?_)
    refine je_iconst (pc := 39) (v := 0) d9006_39 rfl ?_
    refine ju_istore (pc := 40) (lv' := [some _, some _, some _, some _, some _, some _, _]) d9006_40 rfl rfl ?_
    have ok := kk
    have hsz := hk
    clear kk hk
    obtain ⟨sz, rfl⟩ : ∃ y, y = k := ⟨k, rfl⟩
    obtain ⟨xo, rfl⟩ : ∃ y, y = xx := ⟨xx, rfl⟩
    obtain ⟨ho, rfl⟩ : ∃ y, y = h' := ⟨h', rfl⟩
    refine je_loop (σ := Option Value) (2 ^ S.1.1) (fun k xx => [some (.ref 67), some (.ref 40), some (.int (nI n)), some (.int (nI (2 ^ S.1.1))), some (.int (nI sz)), some (.int (nI k)), xx]) (fun k _ h' => fC (fun b => b = 65 ∨ 68 ≤ b ∧ b ≤ 72 ∨ b = 78) h h' ∧ cOk S R L n h' ∧ ∀ q, q < k → vdB S R L n B0 q = true → ¬ pop 10 q = sz) (fun k xx h' hk e kk => ?_) (fun xx h' e => ?_) (0) xo.2 ho (by omega) ⟨e1, e2, fun q hq => absurd hq (Nat.not_lt_zero q)⟩
    · obtain ⟨y1, y2, y3⟩ := e
      have H2 := y1.St H
      have C2 := C.fr y1 (fun b hb => olA (by omega))
      have L2 : rL h'.2.1 40 L := hL.of (fun b h1 h2 => y1.2 b (by omega))
      have ja := and_le (b := B0) hk
      refine je_iload (pc := 42) d9006_42 rfl ?_
      refine je_iload3 (pc := 44) d9006_44 rfl ?_
      refine jn_icge (pc := 45) (a := (k)) (b := (2 ^ S.1.1)) 100 d9006_45 (by decide) (by omega) (by omega) (fun c45 => by exfalso; omega) (fun c45 => ?_)
      refine je_iload (pc := 48) d9006_48 rfl ?_
      have pl := pop_le 10 k
      refine ju_calls (pc := 50) (as := [_]) d9006_50 jL_9_85 jM_Int_bitCount rfl rfl (by exact Nat.le_of_ble_eq_true rfl) (t_Int_bitCount (d + 5) _) (fun r50 h50 q50 => ?_)
      obtain ⟨rfl, e50⟩ := q50
      obtain rfl := e50.symm
      refine ju_eqi (v := nI (pop 10 k)) (bcF_ok _ (by omega)) ?_
      refine je_iload (pc := 53) d9006_53 rfl ?_
      refine ju_tern2 (pc := 55) (V := b2 (pop 10 k = sz ∧ k &&& B0 = 0)) 73 ?_ (fun jn55 => ?_)
      · refine ju_istore (pc := 73) (lv' := [some _, some _, some _, some _, some _, some _, some _]) d9006_73 rfl rfl ?_
        refine je_iload (pc := 75) d9006_75 rfl ?_
        refine jb_ifeq (pc := 77) 94 d9006_77 (by decide) (fun c77 => ?_) (fun c77 => ?_)
        · refine ju_incN (pc := 94) (v := nI ((k) + 1)) (lv' := [some _, some _, some _, some _, some _, some _, some _]) d9006_94 rfl (nI_1 (k)) rfl ?_
          refine je_goto (pc := 97) 42 d9006_97 (by decide) ?_
          refine kk (some _) _ ⟨y1, y2, fun q hq hv => ?_⟩
          by_cases c : q = k
          · subst c
            exact fun z => c77 ⟨z, (of_decide_eq_true hv).1⟩
          · exact y3 q (by omega) hv
        · refine je_aload0 (pc := 80) d9006_80 rfl ?_
          refine je_aload1 (pc := 81) d9006_81 rfl ?_
          refine je_iload (pc := 82) d9006_82 rfl ?_
          refine je_iload2 (pc := 84) d9006_84 rfl ?_
          refine ju_callv (pc := 85) (as := [_, _, _]) d9006_85 jL_9_91 jM_Ol_isPeace rfl (by decide) (sK67 H2) rfl (by exact Nat.le_of_ble_eq_true rfl) (t_Ol_isPeace d (q := k) H2 C2 wS h0 L2 hN hmi hb hB0 eB hn hnn hk y2) (fun r85 h85 q85 => ?_)
          obtain ⟨rfl, f1, f2⟩ := q85
          have H3 := f1.St H2
          refine jb_ifeq (pc := 88) 94 d9006_88 (by decide) (fun c88 => ?_) (fun c88 => ?_)
          · refine ju_incN (pc := 94) (v := nI ((k) + 1)) (lv' := [some _, some _, some _, some _, some _, some _, some _]) d9006_94 rfl (nI_1 (k)) rfl ?_
            refine je_goto (pc := 97) 42 d9006_97 (by decide) ?_
            refine kk (some _) _ ⟨y1.tr f1, f2, fun q hq hv => ?_⟩
            by_cases c : q = k
            · subst c
              exact fun z => c88 (of_decide_eq_true hv).2
            · exact y3 q (by omega) hv
          · refine je_iload (pc := 91) d9006_91 rfl ?_
            refine je_iret (pc := 93) d9006_93 rfl ?_
            refine ⟨?_, y1.tr f1⟩
            rw [bs_u (bs_sp (vdB S R L n B0) (2 ^ S.1.1)) (show bsP (vdB S R L n B0) (2 ^ S.1.1) (some k) from ⟨hk, decide_eq_true ⟨c77.2, c88⟩, fun q hq hv => ?_⟩)]
            · rfl
            · have a1 := e3 q hq hv
              have a2 := c77.1
              by_cases c : pop 10 q = sz
              · refine Or.inr ⟨by omega, ?_⟩
                refine Nat.le_of_not_lt (fun y => y3 q y hv c)
              · exact Or.inl (by omega)
      · refine jn_icne (pc := 55) (a := (pop 10 k)) (b := (sz)) 72 d9006_55 (by decide) (by omega) (by omega) (fun c55 => ?_) (fun c55 => ?_)
        · refine je_iconst (pc := 72) (v := 0) d9006_72 rfl ?_
          refine ju_eqi (v := b2 (pop 10 k = sz ∧ k &&& B0 = 0)) (b2_f (fun z => c55 z.1)).symm ?_
          exact jn55
        · refine je_iload (pc := 58) d9006_58 rfl ?_
          refine je_aload1 (pc := 60) d9006_60 rfl ?_
          refine ju_geti (pc := 61) d9006_61 jF_9_61 rfl (sK40 H2) ?_
          refine ju_eqi (v := nI B0) (L2.2.2.2.2.1.trans eB) ?_
          refine je_iand (pc := 64) d9006_64 ?_
          refine ju_eqi (v := nI (k &&& B0)) (fa_and _ _) ?_
          refine jn_ifne (pc := 65) (a := (k &&& B0)) 72 d9006_65 (by decide) (by omega) (fun c65 => ?_) (fun c65 => ?_)
          · refine je_iconst (pc := 72) (v := 0) d9006_72 rfl ?_
            refine ju_eqi (v := b2 (pop 10 k = sz ∧ k &&& B0 = 0)) (b2_f (fun z => c65 z.2)).symm ?_
            exact jn55
          · refine je_iconst (pc := 68) (v := 1) d9006_68 rfl ?_
            refine je_goto (pc := 69) 73 d9006_69 (by decide) ?_
            refine ju_eqi (v := b2 (pop 10 k = sz ∧ k &&& B0 = 0)) (b2_t ⟨c55, c65⟩).symm ?_
            exact jn55
    · obtain ⟨y1, y2, y3⟩ := e
      have H2 := y1.St H
      refine je_iload (pc := 42) d9006_42 rfl ?_
      refine je_iload3 (pc := 44) d9006_44 rfl ?_
      refine jn_icge (pc := 45) (a := ((2 ^ S.1.1))) (b := (2 ^ S.1.1)) 100 d9006_45 (by decide) (by omega) (by omega) (fun c45 => ?_) (fun c45 => by exfalso; omega)
      refine ju_incN (pc := 100) (v := nI ((sz) + 1)) (lv' := [some _, some _, some _, some _, some _, some _, _]) d9006_100 rfl (nI_1 (sz)) rfl ?_
      refine je_goto (pc := 103) 24 d9006_103 (by decide) ?_
      refine ok (some _, xx) _ ⟨y1, y2, fun q hq hv z => ?_⟩
      have a1 := e3 q hq hv
      exact y3 q hq hv (by omega)
  · obtain ⟨e1, e2, e3⟩ := e
    have H1 := e1.St H
    have C1 := C.fr e1 (fun b hb => olA (by omega))
    obtain ⟨s, c1, c2, c3, c4, -⟩ := id C1
    refine je_iload (pc := 24) d9006_24 rfl ?_
    refine je_aload0 (pc := 26) d9006_26 rfl ?_
    refine ju_getr (pc := 27) (b := 51) d9006_27 jF_9_25 rfl (sK67 H1) (sR67_0 H1) ?_
    refine ju_getr (pc := 30) (b := s) d9006_30 jF_9_64 rfl (sK51 H1) c1 ?_
    refine ju_geti (pc := 33) d9006_33 jF_9_82 rfl c3.1.1 ?_
    refine ju_eqi (v := nI S.1.1) c4.1.1 ?_
    refine jn_icgt (pc := 36) (a := ((S.1.1 + 1))) (b := (S.1.1)) 106 d9006_36 (by decide) (by omega) (by omega) (fun c36 => ?_) (fun c36 => by exfalso; omega)
    refine je_iconst (pc := 106) (v := -1) d9006_106 rfl ?_
    refine je_iret (pc := 107) d9006_107 rfl ?_
    refine ⟨?_, e1⟩
    rw [bs_u (bs_sp (vdB S R L n B0) (2 ^ S.1.1)) (show bsP (vdB S R L n B0) (2 ^ S.1.1) none from fun q hq => ?_)]
    · rfl
    · refine Bool.eq_false_iff.mpr (fun hv => ?_)
      exact e3 q hq hv (by have := pop_mi hq hmi; omega)
