/-! thefts: mathematics; the class -/
def riI (S : MS) (e : Int32) (n : Nat) : Int32 := if 99 < e + warmF S (nI n) then 99 else e + warmF S (nI n)
abbrev tbk (S : MS) (m : Nat) : Prop := bkd S.2.2.2.2.2.2.1 (nI m)
/-- dough of a mile at the begin of a night, if nothing was stolen -/
def untI (S : MS) (m : Nat) : Nat → Int32
  | 0 => S.2.2.2.1 m
  | n + 1 => if tbk S m then untI S m n else riI S (untI S m n) n
def aftI (S : MS) (e : Int32) (b : Nat) : Nat → Int32
  | 0 => e
  | k + 1 => riI S (aftI S e b k) (b + k)
/-- dough of a mile m at the begin of night n, if z was stolen in mile a ahead of night b -/
def dbI (S : MS) (z : Int32) (a b m n : Nat) : Int32 := if ¬ m = a ∨ n < b then untI S m n else aftI S (untI S m b - z) b (n - b)
/-- the logs hold -/
def agF (S : MS) (z : Int32) (ln lm ld : Nat → Int32) (a b : Nat) : Nat → Bool
  | 0 => true
  | k + 1 => agF S z ln lm ld a b k && decide (dbI S z a b (lm k).toNatClampNeg (ln k).toNatClampNeg = ld k)
abbrev posP (S : MS) (z : Int32) (a b : Nat) : Prop := ¬ tbk S a ∧ ¬ untI S a b < z
def ftB (S : MS) (z : Int32) (ln lm ld : Nat → Int32) (lg i : Nat) : Bool := decide (posP S z (i / 30) (i % 30)) && agF S z ln lm ld (i / 30) (i % 30) lg
theorem warm_nI {I : Nat → Nat → Int32} {s : Nat} {S : MS} (hS : rS I s S) (n : Nat) : (if ¬ nI n < 0 ∧ nI n < 100 then I (s + 1) (nI n).toNatClampNeg else 0) = warmF S (nI n) := warm_ok hS _
/-- what is found, up to a place -/
def fnd (h : jx_H) (F : Nat → Bool) (t : Nat) : Prop := h.2.1 107 6 = nI (fa_cnt F t) ∧ ∀ i, i < t → F i = true → h.2.1 109 (fa_cnt F i) = nI (i / 30) ∧ h.2.1 110 (fa_cnt F i) = nI (i % 30)
theorem fa_cnt_inj {F : Nat → Bool} {i j : Nat} (h : i < j) (hi : F i = true) : fa_cnt F i < fa_cnt F j := by
  have h1 := fa_cnt_mono F (show i + 1 ≤ j from h)
  rw [fa_cnt_yes hi] at h1
  omega
set_option maxHeartbeats 2000000 in
theorem t_Th_risen (d : Nat) {bc bs : Nat} {h : jx_H} {s : Nat} {S : MS} (H : jx_St h) (hs : h.2.2.2 107 4 = some s) (P : jx_Sp h s) (hS : rS h.2.1 s S) (x : Int32) (n : Nat) : jx_Tr (d + 2) bc bs 11003 [.ref 107, .int x, .int (nI n)] h (fun r h' => r = some (.int (riI S x n)) ∧ h' = h) := by
  refine jx_tr jM_Th_risen rfl rfl (lv := [some (.ref 107), some (.int x), some (.int (nI n))]) rfl ?_
  refine je_iload1 (pc := 0) d11003_0 rfl ?_
  refine je_aload0 (pc := 1) d11003_1 rfl ?_
  refine ju_getr (pc := 2) (b := s) d11003_2 jF_11_27 rfl (sK107 H) hs ?_
  refine je_iload2 (pc := 5) d11003_5 rfl ?_
  refine ju_callv (pc := 6) (as := [_]) d11003_6 jL_11_71 jM_St_warmthOf rfl (by decide) P.1.1 rfl (by exact Nat.le_of_ble_eq_true rfl) (t_St_warmthOf (d + 0) P _) (fun r6 h6 q6 => ?_)
  obtain ⟨rfl, e6⟩ := q6
  obtain rfl := e6.symm
  refine ju_eqi (v := warmF S (nI n)) (warm_nI hS n) ?_
  refine je_iadd (pc := 9) d11003_9 ?_
  refine je_bipush (pc := 10) (v := 99) d11003_10 rfl ?_
  refine je_mmin (pc := 12) d11003_12 jLm_11_75 (by exact Nat.le_of_ble_eq_true rfl) ?_
  refine je_iret (pc := 15) d11003_15 rfl ?_
  exact ⟨rfl, rfl⟩
theorem sp_La {h : jx_H} {s : Nat} (P : jx_Sp h s) : jx_La h (s + 8) := P.2
set_option maxHeartbeats 4000000 in
theorem th_fu {d bc bs m : Nat} {h : jx_H} {Q : Option Value → jx_H → Prop} {s : Nat} {S : MS} (H : jx_St h) (hs : h.2.2.2 107 4 = some s) (P : jx_Sp h s) (hS : rS h.2.1 s S) (hsA : sA s) (hm : m < 10) (x3 : Option Value)
  (hK : ∀ h' x2, fC (fun b => b = 108) h h' → (∀ n, n < 31 → h'.2.1 108 (m * 31 + n) = untI S m n) → (∀ i, i < m * 31 → h'.2.1 108 i = h.2.1 108 i) → jx_Ev (d + 4) bc bs 11002 77 [some (.ref 107), some (.int (nI m)), some (.int x2), some (.int (nI 31))] [] h' Q) : jx_Ev (d + 4) bc bs 11002 26 [some (.ref 107), some (.int (nI m)), some (.int (untI S m 0)), x3] [] h Q := by
  refine je_iconst (pc := 26) (v := 0) d11002_26 rfl ?_
  refine ju_istore3 (pc := 27) (lv' := [some _, some _, some _, some _]) d11002_27 rfl rfl ?_
  refine je_loop (σ := Unit) (31) (fun k xx => [some (.ref 107), some (.int (nI m)), some (.int (untI S m k)), some (.int (nI k))]) (fun k _ h' => fC (fun b => b = 108) h h' ∧ (∀ n, n < k → h'.2.1 108 (m * 31 + n) = untI S m n) ∧ ∀ i, i < m * 31 → h'.2.1 108 i = h.2.1 108 i) (fun k xx h' hk e kk => ?_) (fun xx h' e => ?_) (0) () h (by omega) ⟨fC.rf, fun n hn => absurd hn (Nat.not_lt_zero n), fun _ _ => rfl⟩
  · obtain ⟨e1, e2, e3⟩ := e
    have H1 := e1.St H
    have P1 := e1.Sp P
    have hs1 := e1.rr hs
    have hS1 : rS h'.2.1 s S := hS.of (fun b h1 h2 => e1.2 b (fun z => by unfold sA at hsA; omega))
    refine je_iload3 (pc := 28) d11002_28 rfl ?_
    refine je_bipush (pc := 29) (v := 31) d11002_29 rfl ?_
    refine jn_icge (pc := 31) (a := (k)) (b := 31) 77 d11002_31 (by decide) (by omega) (by omega) (fun c31 => by exfalso; omega) (fun c31 => ?_)
    refine je_aload0 (pc := 34) d11002_34 rfl ?_
    refine ju_getr (pc := 35) (b := 108) d11002_35 jF_11_11 rfl (sK107 H1) (sR107_0 H1) ?_
    refine je_iload1 (pc := 38) d11002_38 rfl ?_
    refine je_bipush (pc := 39) (v := 31) d11002_39 rfl ?_
    refine je_imul (pc := 41) d11002_41 ?_
    refine ju_eqi (v := nI ((m) * 31)) (pk_mul (m) 31) ?_
    refine je_iload3 (pc := 42) d11002_42 rfl ?_
    refine je_iadd (pc := 43) d11002_43 ?_
    refine ju_eqi (v := nI (((m) * 31) + (k))) (nI_add ((m) * 31) (k)) ?_
    refine je_iload2 (pc := 44) d11002_44 rfl ?_
    refine ju_iast (pc := 45) (jn := (((m) * 31) + (k))) d11002_45 (sK108 H1) (vp_in_nI (by omega) (by decide)) (nI_clamp (by omega)) ?_
    refine je_aload0 (pc := 46) d11002_46 rfl ?_
    refine ju_getr (pc := 47) (b := s) d11002_47 jF_11_27 rfl (sK107 H1.wI) hs1 ?_
    refine ju_getr (pc := 50) (b := (s + 8)) d11002_50 jF_11_54 rfl P1.wI.1.1 P1.wI.1.2.2.2.2.2.2.2.2.2 ?_
    refine je_iload1 (pc := 53) d11002_53 rfl ?_
    refine ju_callv (pc := 54) (as := [_]) d11002_54 jL_11_63 jM_La_isBaked rfl (by decide) P1.wI.1.2.2.2.2.2.2.2.2.1 rfl (by exact Nat.le_of_ble_eq_true rfl) (t_La_isBaked (d + 2) (sp_La P1).wI _) (fun r54 h54 q54 => ?_)
    obtain ⟨rfl, e54⟩ := q54
    obtain rfl := e54.symm
    refine ju_tern1 (pc := 57) (V := (if tbk S m then untI S m k else riI S (untI S m k) k)) 70 ?_ (fun jn57 => ?_)
    · refine ju_istore2 (pc := 70) (lv' := [some _, some _, some _, some _]) d11002_70 rfl rfl ?_
      refine ju_incN (pc := 71) (v := nI ((k) + 1)) (lv' := [some _, some _, some _, some _]) d11002_71 rfl (nI_1 (k)) rfl ?_
      refine je_goto (pc := 74) 28 d11002_74 (by decide) ?_
      refine kk () _ ⟨e1.wI rfl, fun n hn => ?_, fun i hi => ?_⟩
      · rw [wI_at]
        by_cases c : n = k
        · subst c; rw [jx_up_self]
        · rw [jx_up_ne _ _ (by omega)]; exact e2 n (by omega)
      · rw [wI_at, jx_up_ne _ _ (by omega)]; exact e3 i hi
    · refine jb_ifeq (pc := 57) 64 d11002_57 (by decide) (fun c57 => ?_) (fun c57 => ?_)
      · have tb57 : ¬ tbk S m := by rw [wI_ne _ _ _ (fun z => by unfold sA at hsA; omega), hS1.2.2.2.2.2.2.2.2.2.1] at c57; exact c57
        refine je_aload0 (pc := 64) d11002_64 rfl ?_
        refine je_iload2 (pc := 65) d11002_65 rfl ?_
        refine je_iload3 (pc := 66) d11002_66 rfl ?_
        refine ju_callv (pc := 67) (as := [_, _]) d11002_67 jL_11_67 jM_Th_risen rfl (by decide) (sK107 H1.wI) rfl (by exact Nat.le_of_ble_eq_true rfl) (t_Th_risen (d + 1) H1.wI hs1 P1.wI (hS1.of (fun b h1 h2 => wI_ne _ _ _ (fun z => by unfold sA at hsA; omega))) _ k) (fun r67 h67 q67 => ?_)
        obtain ⟨rfl, e67⟩ := q67
        obtain rfl := e67.symm
        refine ju_eqi (v := (if tbk S m then untI S m k else riI S (untI S m k) k)) (by rw [if_neg tb57]) ?_
        exact jn57
      · have tb57 : tbk S m := by rw [wI_ne _ _ _ (fun z => by unfold sA at hsA; omega), hS1.2.2.2.2.2.2.2.2.2.1] at c57; exact c57
        refine je_iload2 (pc := 60) d11002_60 rfl ?_
        refine je_goto (pc := 61) 70 d11002_61 (by decide) ?_
        refine ju_eqi (v := (if tbk S m then untI S m k else riI S (untI S m k) k)) (by rw [if_pos tb57]) ?_
        exact jn57
  · obtain ⟨e1, e2, e3⟩ := e
    have H1 := e1.St H
    have P1 := e1.Sp P
    have hs1 := e1.rr hs
    have hS1 : rS h'.2.1 s S := hS.of (fun b h1 h2 => e1.2 b (fun z => by unfold sA at hsA; omega))
    refine je_iload3 (pc := 28) d11002_28 rfl ?_
    refine je_bipush (pc := 29) (v := 31) d11002_29 rfl ?_
    refine jn_icge (pc := 31) (a := ((31))) (b := 31) 77 d11002_31 (by decide) (by omega) (by omega) (fun c31 => ?_) (fun c31 => by exfalso; omega)
    exact hK _ _ e1 e2 e3
set_option maxHeartbeats 2000000 in
theorem t_Th_fillUntouched (d : Nat) {bc bs : Nat} {h : jx_H} {s : Nat} {S : MS} (H : jx_St h) (hs : h.2.2.2 107 4 = some s) (P : jx_Sp h s) (hS : rS h.2.1 s S) (hsA : sA s) (hmi : S.1.1 ≤ 10) : jx_Tr (d + 4) bc bs 11002 [.ref 107] h (fun r h' => r = none ∧ fC (fun b => b = 108) h h' ∧ ∀ m, m < S.1.1 → ∀ n, n < 31 → h'.2.1 108 (m * 31 + n) = untI S m n) := by
  refine jx_tr jM_Th_fillUntouched rfl rfl (lv := [some (.ref 107), none, none, none]) rfl ?_
  refine je_iconst (pc := 0) (v := 0) d11002_0 rfl ?_
  refine ju_istore1 (pc := 1) (lv' := [some _, some _, none, none]) d11002_1 rfl rfl ?_
  refine je_loop (σ := Option Value × Option Value) (S.1.1) (fun k xx => [some (.ref 107), some (.int (nI k)), xx.1, xx.2]) (fun k _ h' => fC (fun b => b = 108) h h' ∧ ∀ m, m < k → ∀ n, n < 31 → h'.2.1 108 (m * 31 + n) = untI S m n) (fun k xx h' hk e kk => ?_) (fun xx h' e => ?_) (0) (none, none) h (by omega) ⟨fC.rf, fun m hm => absurd hm (Nat.not_lt_zero m)⟩
  · obtain ⟨e1, e2⟩ := e
    have H1 := e1.St H
    have P1 := e1.Sp P
    have hs1 := e1.rr hs
    have hS1 : rS h'.2.1 s S := hS.of (fun b h1 h2 => e1.2 b (fun z => by unfold sA at hsA; omega))
    refine je_iload1 (pc := 2) d11002_2 rfl ?_
    refine je_aload0 (pc := 3) d11002_3 rfl ?_
    refine ju_getr (pc := 4) (b := s) d11002_4 jF_11_27 rfl (sK107 H1) hs1 ?_
    refine ju_geti (pc := 7) d11002_7 jF_11_44 rfl P1.1.1 ?_
    refine ju_eqi (v := nI S.1.1) hS1.1.1 ?_
    refine jn_icge (pc := 10) (a := (k)) (b := (S.1.1)) 83 d11002_10 (by decide) (by omega) (by omega) (fun c10 => by exfalso; omega) (fun c10 => ?_)
    refine je_aload0 (pc := 13) d11002_13 rfl ?_
    refine ju_getr (pc := 14) (b := s) d11002_14 jF_11_27 rfl (sK107 H1) hs1 ?_
    refine ju_getr (pc := 17) (b := (s + 8)) d11002_17 jF_11_54 rfl P1.1.1 P1.1.2.2.2.2.2.2.2.2.2 ?_
    refine ju_getr (pc := 20) (b := ((s + 8) + 2)) d11002_20 jF_11_58 rfl P1.1.2.2.2.2.2.2.2.2.1 P1.2.2.2.1.2 ?_
    refine je_iload1 (pc := 23) d11002_23 rfl ?_
    refine ju_iald (pc := 24) (jn := (k)) d11002_24 P1.2.2.2.1.1 (vp_in_nI (by omega) (by decide)) (nI_clamp (by omega)) ?_
    refine ju_eqi (v := untI S k 0) (hS1.2.2.2.2.2.2.1 k (by omega)) ?_
    refine ju_istore2 (pc := 25) (lv' := [some _, some _, some _, _]) d11002_25 rfl rfl ?_
    refine th_fu (m := k) H1 hs1 P1 hS1 hsA (by omega) _ (fun h2 x2 g1 g2 g3 => ?_)
    refine ju_incN (pc := 77) (v := nI ((k) + 1)) (lv' := [some _, some _, some _, some _]) d11002_77 rfl (nI_1 (k)) rfl ?_
    refine je_goto (pc := 80) 2 d11002_80 (by decide) ?_
    refine kk (some _, some _) _ ⟨e1.tr g1, fun m hm n hn => ?_⟩
    by_cases c : m = k
    · subst c; exact g2 n hn
    · rw [g3 _ (by omega)]; exact e2 m (by omega) n hn
  · obtain ⟨e1, e2⟩ := e
    have H1 := e1.St H
    have P1 := e1.Sp P
    have hs1 := e1.rr hs
    have hS1 : rS h'.2.1 s S := hS.of (fun b h1 h2 => e1.2 b (fun z => by unfold sA at hsA; omega))
    refine je_iload1 (pc := 2) d11002_2 rfl ?_
    refine je_aload0 (pc := 3) d11002_3 rfl ?_
    refine ju_getr (pc := 4) (b := s) d11002_4 jF_11_27 rfl (sK107 H1) hs1 ?_
    refine ju_geti (pc := 7) d11002_7 jF_11_44 rfl P1.1.1 ?_
    refine ju_eqi (v := nI S.1.1) hS1.1.1 ?_
    refine jn_icge (pc := 10) (a := ((S.1.1))) (b := (S.1.1)) 83 d11002_10 (by decide) (by omega) (by omega) (fun c10 => ?_) (fun c10 => by exfalso; omega)
    refine je_ret (pc := 83) d11002_83 rfl ?_
    exact ⟨rfl, e1, e2⟩
set_option maxHeartbeats 2000000 in
theorem t_Th_isPossible (d : Nat) {bc bs : Nat} {h : jx_H} {s : Nat} {S : MS} (H : jx_St h) (hs : h.2.2.2 107 4 = some s) (P : jx_Sp h s) (hS : rS h.2.1 s S) (hU : ∀ m, m < S.1.1 → ∀ n, n < 31 → h.2.1 108 (m * 31 + n) = untI S m n) (hmi : S.1.1 ≤ 10) {z : Int32} (hz : h.2.1 107 5 = z) {a b : Nat} (ha : a < S.1.1) (hb : b < 31) : jx_Tr (d + 2) bc bs 11004 [.ref 107, .int (nI a), .int (nI b)] h (fun r h' => r = some (.int (b2 (posP S z a b))) ∧ h' = h) := by
  refine jx_tr jM_Th_isPossible rfl rfl (lv := [some (.ref 107), some (.int (nI a)), some (.int (nI b))]) rfl ?_
  refine je_aload0 (pc := 0) d11004_0 rfl ?_
  refine ju_getr (pc := 1) (b := s) d11004_1 jF_11_27 rfl (sK107 H) hs ?_
  refine ju_getr (pc := 4) (b := (s + 8)) d11004_4 jF_11_54 rfl P.1.1 P.1.2.2.2.2.2.2.2.2.2 ?_
  refine je_iload1 (pc := 7) d11004_7 rfl ?_
  refine ju_callv (pc := 8) (as := [_]) d11004_8 jL_11_63 jM_La_isBaked rfl (by decide) P.1.2.2.2.2.2.2.2.2.1 rfl (by exact Nat.le_of_ble_eq_true rfl) (t_La_isBaked (d + 0) (sp_La P) _) (fun r8 h8 q8 => ?_)
  obtain ⟨rfl, e8⟩ := q8
  obtain rfl := e8.symm
  refine ju_tern1 (pc := 11) (V := b2 (posP S z a b)) 37 ?_ (fun jn11 => ?_)
  · refine je_zret (pc := 37) d11004_37 rfl (b2_01 _) ?_
    exact ⟨rfl, rfl⟩
  · refine jb_ifne (pc := 11) 36 d11004_11 (by decide) (fun c11 => ?_) (fun c11 => ?_)
    · refine je_iconst (pc := 36) (v := 0) d11004_36 rfl ?_
      refine ju_eqi (v := b2 (posP S z a b)) (b2_f (fun q => q.1 (by rw [hS.2.2.2.2.2.2.2.2.2.1] at c11; exact c11))).symm ?_
      exact jn11
    · refine je_aload0 (pc := 14) d11004_14 rfl ?_
      refine ju_getr (pc := 15) (b := 108) d11004_15 jF_11_11 rfl (sK107 H) (sR107_0 H) ?_
      refine je_iload1 (pc := 18) d11004_18 rfl ?_
      refine je_bipush (pc := 19) (v := 31) d11004_19 rfl ?_
      refine je_imul (pc := 21) d11004_21 ?_
      refine ju_eqi (v := nI ((a) * 31)) (pk_mul (a) 31) ?_
      refine je_iload2 (pc := 22) d11004_22 rfl ?_
      refine je_iadd (pc := 23) d11004_23 ?_
      refine ju_eqi (v := nI (((a) * 31) + (b))) (nI_add ((a) * 31) (b)) ?_
      refine ju_iald (pc := 24) (jn := (((a) * 31) + (b))) d11004_24 (sK108 H) (vp_in_nI (by omega) (by decide)) (nI_clamp (by omega)) ?_
      refine ju_eqi (v := untI S a b) (hU a ha b hb) ?_
      refine je_aload0 (pc := 25) d11004_25 rfl ?_
      refine ju_geti (pc := 26) d11004_26 jF_11_34 rfl (sK107 H) ?_
      refine ju_eqi (v := z) hz ?_
      refine je_iclt (pc := 29) 36 d11004_29 (by decide) (fun c29 => ?_) (fun c29 => ?_)
      · refine je_iconst (pc := 36) (v := 0) d11004_36 rfl ?_
        refine ju_eqi (v := b2 (posP S z a b)) (b2_f (fun q => q.2 c29)).symm ?_
        exact jn11
      · refine je_iconst (pc := 32) (v := 1) d11004_32 rfl ?_
        refine je_goto (pc := 33) 37 d11004_33 (by decide) ?_
        refine ju_eqi (v := b2 (posP S z a b)) (b2_t ⟨by rw [hS.2.2.2.2.2.2.2.2.2.1] at c11; exact c11, c29⟩).symm ?_
        exact jn11
set_option maxHeartbeats 2000000 in
theorem t_Th_doughBy (d : Nat) {bc bs : Nat} {h : jx_H} {s : Nat} {S : MS} (H : jx_St h) (hs : h.2.2.2 107 4 = some s) (P : jx_Sp h s) (hS : rS h.2.1 s S) (hU : ∀ m, m < S.1.1 → ∀ n, n < 31 → h.2.1 108 (m * 31 + n) = untI S m n) (hmi : S.1.1 ≤ 10) {z : Int32} (hz : h.2.1 107 5 = z) {a b m n : Nat} (hm : m < S.1.1) (hn : n < 31) (hb : b < 31) (ha : a < 2 ^ 31) : jx_Tr (d + 3) bc bs 11006 [.ref 107, .int (nI a), .int (nI b), .int (nI m), .int (nI n)] h (fun r h' => r = some (.int (dbI S z a b m n)) ∧ h' = h) := by
  refine jx_tr jM_Th_doughBy rfl rfl (lv := [some (.ref 107), some (.int (nI a)), some (.int (nI b)), some (.int (nI m)), some (.int (nI n)), none, none]) rfl ?_
  refine je_iload3 (pc := 0) d11006_0 rfl ?_
  refine je_iload1 (pc := 1) d11006_1 rfl ?_
  refine jn_icne (pc := 2) (a := (m)) (b := (a)) 11 d11006_2 (by decide) (by omega) (by omega) (fun c2 => ?_) (fun c2 => ?_)
  · refine je_aload0 (pc := 11) d11006_11 rfl ?_
    refine ju_getr (pc := 12) (b := 108) d11006_12 jF_11_11 rfl (sK107 H) (sR107_0 H) ?_
    refine je_iload3 (pc := 15) d11006_15 rfl ?_
    refine je_bipush (pc := 16) (v := 31) d11006_16 rfl ?_
    refine je_imul (pc := 18) d11006_18 ?_
    refine ju_eqi (v := nI ((m) * 31)) (pk_mul (m) 31) ?_
    refine je_iload (pc := 19) d11006_19 rfl ?_
    refine je_iadd (pc := 21) d11006_21 ?_
    refine ju_eqi (v := nI (((m) * 31) + (n))) (nI_add ((m) * 31) (n)) ?_
    refine ju_iald (pc := 22) (jn := (((m) * 31) + (n))) d11006_22 (sK108 H) (vp_in_nI (by omega) (by decide)) (nI_clamp (by omega)) ?_
    refine ju_eqi (v := untI S m n) (hU m hm n hn) ?_
    refine je_iret (pc := 23) d11006_23 rfl ?_
    exact ⟨by unfold dbI; rw [if_pos (Or.inl c2)], rfl⟩
  · refine je_iload (pc := 5) d11006_5 rfl ?_
    refine je_iload2 (pc := 7) d11006_7 rfl ?_
    refine jn_icge (pc := 8) (a := (n)) (b := (b)) 24 d11006_8 (by decide) (by omega) (by omega) (fun c8 => ?_) (fun c8 => ?_)
    · refine je_aload0 (pc := 24) d11006_24 rfl ?_
      refine ju_getr (pc := 25) (b := 108) d11006_25 jF_11_11 rfl (sK107 H) (sR107_0 H) ?_
      refine je_iload3 (pc := 28) d11006_28 rfl ?_
      refine je_bipush (pc := 29) (v := 31) d11006_29 rfl ?_
      refine je_imul (pc := 31) d11006_31 ?_
      refine ju_eqi (v := nI ((m) * 31)) (pk_mul (m) 31) ?_
      refine je_iload2 (pc := 32) d11006_32 rfl ?_
      refine je_iadd (pc := 33) d11006_33 ?_
      refine ju_eqi (v := nI (((m) * 31) + (b))) (nI_add ((m) * 31) (b)) ?_
      refine ju_iald (pc := 34) (jn := (((m) * 31) + (b))) d11006_34 (sK108 H) (vp_in_nI (by omega) (by decide)) (nI_clamp (by omega)) ?_
      refine ju_eqi (v := untI S m b) (hU m hm b hb) ?_
      refine je_aload0 (pc := 35) d11006_35 rfl ?_
      refine ju_geti (pc := 36) d11006_36 jF_11_34 rfl (sK107 H) ?_
      refine ju_eqi (v := z) hz ?_
      refine je_isub (pc := 39) d11006_39 ?_
      refine ju_istore (pc := 40) (lv' := [some _, some _, some _, some _, some _, some _, none]) d11006_40 rfl rfl ?_
      refine je_iload2 (pc := 42) d11006_42 rfl ?_
      refine ju_istore (pc := 43) (lv' := [some _, some _, some _, some _, some _, some _, some _]) d11006_43 rfl rfl ?_
      refine je_loop (σ := Unit) (n - b) (fun k xx => [some (.ref 107), some (.int (nI a)), some (.int (nI b)), some (.int (nI m)), some (.int (nI n)), some (.int (aftI S (untI S m b - z) b k)), some (.int (nI (b + k)))]) (fun _ _ h' => h' = h) (fun k xx h' hk e kk => ?_) (fun xx h' e => ?_) (0) () h (by omega) rfl
      · obtain rfl := e.symm
        refine je_iload (pc := 45) d11006_45 rfl ?_
        refine je_iload (pc := 47) d11006_47 rfl ?_
        refine jn_icge (pc := 49) (a := (b + k)) (b := (n)) 68 d11006_49 (by decide) (by omega) (by omega) (fun c49 => by exfalso; omega) (fun c49 => ?_)
        refine je_aload0 (pc := 52) d11006_52 rfl ?_
        refine je_iload (pc := 53) d11006_53 rfl ?_
        refine je_iload (pc := 55) d11006_55 rfl ?_
        refine ju_callv (pc := 57) (as := [_, _]) d11006_57 jL_11_67 jM_Th_risen rfl (by decide) (sK107 H) rfl (by exact Nat.le_of_ble_eq_true rfl) (t_Th_risen d H hs P hS _ (b + k)) (fun r57 h57 q57 => ?_)
        obtain ⟨rfl, e57⟩ := q57
        obtain rfl := e57.symm
        refine ju_istore (pc := 60) (lv' := [some _, some _, some _, some _, some _, some _, some _]) d11006_60 rfl rfl ?_
        refine ju_incN (pc := 62) (v := nI ((b + k) + 1)) (lv' := [some _, some _, some _, some _, some _, some _, some _]) d11006_62 rfl (nI_1 (b + k)) rfl ?_
        refine je_goto (pc := 65) 45 d11006_65 (by decide) ?_
        exact kk () _ rfl
      · obtain rfl := e.symm
        refine je_iload (pc := 45) d11006_45 rfl ?_
        refine je_iload (pc := 47) d11006_47 rfl ?_
        refine jn_icge (pc := 49) (a := (b + (n - b))) (b := (n)) 68 d11006_49 (by decide) (by omega) (by omega) (fun c49 => ?_) (fun c49 => by exfalso; omega)
        refine je_iload (pc := 68) d11006_68 rfl ?_
        refine je_iret (pc := 70) d11006_70 rfl ?_
        exact ⟨by unfold dbI; rw [if_neg (fun q => q.elim (fun y => y c2) (fun y => by omega))], rfl⟩
    · refine je_aload0 (pc := 11) d11006_11 rfl ?_
      refine ju_getr (pc := 12) (b := 108) d11006_12 jF_11_11 rfl (sK107 H) (sR107_0 H) ?_
      refine je_iload3 (pc := 15) d11006_15 rfl ?_
      refine je_bipush (pc := 16) (v := 31) d11006_16 rfl ?_
      refine je_imul (pc := 18) d11006_18 ?_
      refine ju_eqi (v := nI ((m) * 31)) (pk_mul (m) 31) ?_
      refine je_iload (pc := 19) d11006_19 rfl ?_
      refine je_iadd (pc := 21) d11006_21 ?_
      refine ju_eqi (v := nI (((m) * 31) + (n))) (nI_add ((m) * 31) (n)) ?_
      refine ju_iald (pc := 22) (jn := (((m) * 31) + (n))) d11006_22 (sK108 H) (vp_in_nI (by omega) (by decide)) (nI_clamp (by omega)) ?_
      refine ju_eqi (v := untI S m n) (hU m hm n hn) ?_
      refine je_iret (pc := 23) d11006_23 rfl ?_
      exact ⟨by unfold dbI; rw [if_pos (Or.inr c8)], rfl⟩
theorem ag_all {S : MS} {z : Int32} {ln lm ld : Nat → Int32} {a b : Nat} : ∀ {lg : Nat}, agF S z ln lm ld a b lg = true → ∀ k, k < lg → ∀ m x, lm k = nI m → ln k = nI x → m < S.1.1 → x ≤ 30 → S.1.1 ≤ 10 → dbI S z a b m x = ld k
  | 0, _, k, hk, _, _, _, _, _, _, _ => absurd hk (Nat.not_lt_zero k)
  | lg + 1, h, k, hk, m, x, em, ex, hm, hx, hmi => by
    rw [agF, Bool.and_eq_true, decide_eq_true_eq] at h
    by_cases c : k = lg
    · subst c
      have := h.2
      rw [em, ex, nI_clamp (by omega), nI_clamp (by omega)] at this
      exact this
    · exact ag_all h.1 k (by omega) m x em ex hm hx hmi
set_option maxHeartbeats 2000000 in
theorem t_Th_agrees (d : Nat) {bc bs : Nat} {h : jx_H} {s : Nat} {S : MS} (H : jx_St h) (hs : h.2.2.2 107 4 = some s) (P : jx_Sp h s) (hS : rS h.2.1 s S) (hU : ∀ m, m < S.1.1 → ∀ n, n < 31 → h.2.1 108 (m * 31 + n) = untI S m n) (hmi : S.1.1 ≤ 10) {z : Int32} (hz : h.2.1 107 5 = z) {lg : Nat} {ln lm ld : Nat → Int32} (h4 : h.2.1 26 4 = nI lg) (hlg : lg ≤ 10) (hl : ∀ k, k < lg → h.2.1 45 k = ln k ∧ h.2.1 46 k = lm k ∧ h.2.1 47 k = ld k) (wl : ∀ k, k < lg → (∃ x, x ≤ 30 ∧ ln k = nI x) ∧ (∃ m, m < S.1.1 ∧ lm k = nI m) ∧ ∃ e, e ≤ 99 ∧ ld k = nI e) {a b : Nat} (ha : a < 2 ^ 31) (hb : b < 31) : jx_Tr (d + 4) bc bs 11005 [.ref 107, .ref 26, .int (nI a), .int (nI b)] h (fun r h' => r = some (.int (b2 (agF S z ln lm ld a b lg = true))) ∧ h' = h) := by
  refine jx_tr jM_Th_agrees rfl rfl (lv := [some (.ref 107), some (.ref 26), some (.int (nI a)), some (.int (nI b)), none, none]) rfl ?_
  refine je_iconst (pc := 0) (v := 0) d11005_0 rfl ?_
  refine ju_istore (pc := 1) (lv' := [some _, some _, some _, some _, some _, none]) d11005_1 rfl rfl ?_
  refine je_loop (σ := Option Value) (lg) (fun k xx => [some (.ref 107), some (.ref 26), some (.int (nI a)), some (.int (nI b)), some (.int (nI k)), xx]) (fun k _ h' => h' = h ∧ agF S z ln lm ld a b k = true) (fun k xx h' hk e kk => ?_) (fun xx h' e => ?_) (0) none h (by omega) ⟨rfl, rfl⟩
  · obtain ⟨e0, e1⟩ := e
    obtain rfl := e0.symm
    obtain ⟨⟨x, hx, ex⟩, ⟨m, hm, em⟩, -⟩ := wl k hk
    obtain ⟨l1, l2, l3⟩ := hl k hk
    have ae : agF S z ln lm ld a b (k + 1) = (agF S z ln lm ld a b k && decide (dbI S z a b m x = ld k)) := by rw [agF, em, ex, nI_clamp (by omega), nI_clamp (by omega)]
    refine je_iload (pc := 3) d11005_3 rfl ?_
    refine je_aload1 (pc := 5) d11005_5 rfl ?_
    refine ju_geti (pc := 6) d11005_6 jF_11_80 rfl (sK26 H) ?_
    refine ju_eqi (v := nI lg) h4 ?_
    refine jn_icge (pc := 9) (a := (k)) (b := (lg)) 54 d11005_9 (by decide) (by omega) (by omega) (fun c9 => by exfalso; omega) (fun c9 => ?_)
    refine je_aload0 (pc := 12) d11005_12 rfl ?_
    refine je_iload2 (pc := 13) d11005_13 rfl ?_
    refine je_iload3 (pc := 14) d11005_14 rfl ?_
    refine je_aload1 (pc := 15) d11005_15 rfl ?_
    refine ju_getr (pc := 16) (b := 46) d11005_16 jF_11_83 rfl (sK26 H) (sR26_6 H) ?_
    refine je_iload (pc := 19) d11005_19 rfl ?_
    refine ju_iald (pc := 21) (jn := (k)) d11005_21 (sK46 H) (vp_in_nI (by omega) (by decide)) (nI_clamp (by omega)) ?_
    refine ju_eqi (v := nI m) (l2.trans em) ?_
    refine je_aload1 (pc := 22) d11005_22 rfl ?_
    refine ju_getr (pc := 23) (b := 45) d11005_23 jF_11_86 rfl (sK26 H) (sR26_5 H) ?_
    refine je_iload (pc := 26) d11005_26 rfl ?_
    refine ju_iald (pc := 28) (jn := (k)) d11005_28 (sK45 H) (vp_in_nI (by omega) (by decide)) (nI_clamp (by omega)) ?_
    refine ju_eqi (v := nI x) (l1.trans ex) ?_
    refine ju_callv (pc := 29) (as := [_, _, _, _]) d11005_29 jL_11_89 jM_Th_doughBy rfl (by decide) (sK107 H) rfl (by exact Nat.le_of_ble_eq_true rfl) (t_Th_doughBy d H hs P hS hU hmi hz (m := m) (n := x) hm (by omega) hb ha) (fun r29 h29 q29 => ?_)
    obtain ⟨rfl, e29⟩ := q29
    obtain rfl := e29.symm
    refine ju_istore (pc := 32) (lv' := [some _, some _, some _, some _, some _, some _]) d11005_32 rfl rfl ?_
    refine je_iload (pc := 34) d11005_34 rfl ?_
    refine je_aload1 (pc := 36) d11005_36 rfl ?_
    refine ju_getr (pc := 37) (b := 47) d11005_37 jF_11_93 rfl (sK26 H) (sR26_7 H) ?_
    refine je_iload (pc := 40) d11005_40 rfl ?_
    refine ju_iald (pc := 42) (jn := (k)) d11005_42 (sK47 H) (vp_in_nI (by omega) (by decide)) (nI_clamp (by omega)) ?_
    refine ju_eqi (v := ld k) l3 ?_
    refine je_iceq (pc := 43) 48 d11005_43 (by decide) (fun c43 => ?_) (fun c43 => ?_)
    · refine ju_incN (pc := 48) (v := nI ((k) + 1)) (lv' := [some _, some _, some _, some _, some _, some _]) d11005_48 rfl (nI_1 (k)) rfl ?_
      refine je_goto (pc := 51) 3 d11005_51 (by decide) ?_
      exact kk (some _) _ ⟨rfl, by rw [ae, e1, decide_eq_true c43]; rfl⟩
    · refine je_iconst (pc := 46) (v := 0) d11005_46 rfl ?_
      refine je_zret (pc := 47) d11005_47 rfl (Or.inl rfl) ?_
      refine ⟨?_, rfl⟩
      have q : ¬ agF S z ln lm ld a b lg = true := fun q => c43 (ag_all q k hk m x em ex hm hx hmi)
      rw [b2_f q]
  · obtain ⟨e0, e1⟩ := e
    obtain rfl := e0.symm
    refine je_iload (pc := 3) d11005_3 rfl ?_
    refine je_aload1 (pc := 5) d11005_5 rfl ?_
    refine ju_geti (pc := 6) d11005_6 jF_11_80 rfl (sK26 H) ?_
    refine ju_eqi (v := nI lg) h4 ?_
    refine jn_icge (pc := 9) (a := ((lg))) (b := (lg)) 54 d11005_9 (by decide) (by omega) (by omega) (fun c9 => ?_) (fun c9 => by exfalso; omega)
    refine je_iconst (pc := 54) (v := 1) d11005_54 rfl ?_
    refine je_zret (pc := 55) d11005_55 rfl (Or.inr rfl) ?_
    exact ⟨by rw [b2_t e1], rfl⟩
theorem fnd_no {h : jx_H} {F : Nat → Bool} {t : Nat} (q : fnd h F t) (e : F t = false) : fnd h F (t + 1) := by
  refine ⟨by rw [fa_cnt_no e]; exact q.1, fun i hi fi => ?_⟩
  by_cases c : i = t
  · subst c; rw [e] at fi; cases fi
  · exact q.2 i (by omega) fi
set_option maxHeartbeats 4000000 in
theorem th_in {d bc bs a : Nat} {h : jx_H} {Q : Option Value → jx_H → Prop} {s : Nat} {S : MS} (H : jx_St h) (hs : h.2.2.2 107 4 = some s) (P : jx_Sp h s) (hS : rS h.2.1 s S) (hU : ∀ m, m < S.1.1 → ∀ n, n < 31 → h.2.1 108 (m * 31 + n) = untI S m n) (hmi : S.1.1 ≤ 10) {z : Int32} (hz : h.2.1 107 5 = z) {lg : Nat} {ln lm ld : Nat → Int32} (h4 : h.2.1 26 4 = nI lg) (hlg : lg ≤ 10) (hl : ∀ k, k < lg → h.2.1 45 k = ln k ∧ h.2.1 46 k = lm k ∧ h.2.1 47 k = ld k) (wl : ∀ k, k < lg → (∃ x, x ≤ 30 ∧ ln k = nI x) ∧ (∃ m, m < S.1.1 ∧ lm k = nI m) ∧ ∃ e, e ≤ 99 ∧ ld k = nI e) (hsA : sA s) (ha : a < S.1.1) (vz : Int32) (x4 : Option Value) (hf : fnd h (ftB S z ln lm ld lg) (30 * a))
  (hK : ∀ h', fC (fun b => b = 107 ∨ b = 109 ∨ b = 110) h h' → fnd h' (ftB S z ln lm ld lg) (30 * (a + 1)) → (∀ j, j ≠ 6 → h'.2.1 107 j = h.2.1 107 j) → jx_Ev (d + 5) bc bs 11001 103 [some (.ref 107), some (.ref 26), some (.int vz), some (.int (nI a)), some (.int (nI 30))] [] h' Q) : jx_Ev (d + 5) bc bs 11001 35 [some (.ref 107), some (.ref 26), some (.int vz), some (.int (nI a)), x4] [] h Q := by
  refine je_iconst (pc := 35) (v := 0) d11001_35 rfl ?_
  refine ju_istore (pc := 36) (lv' := [some _, some _, some _, some _, some _]) d11001_36 rfl rfl ?_
  refine je_loop (σ := Unit) (30) (fun k xx => [some (.ref 107), some (.ref 26), some (.int vz), some (.int (nI a)), some (.int (nI k))]) (fun k _ h' => fC (fun b => b = 107 ∨ b = 109 ∨ b = 110) h h' ∧ fnd h' (ftB S z ln lm ld lg) (30 * a + k) ∧ ∀ j, j ≠ 6 → h'.2.1 107 j = h.2.1 107 j) (fun k xx h' hk e kk => ?_) (fun xx h' e => ?_) (0) () h (by omega) ⟨fC.rf, hf, fun _ _ => rfl⟩
  · obtain ⟨e1, e2, e3⟩ := e
    have H1 := e1.St H
    have P1 := e1.Sp P
    have hs1 := e1.rr hs
    have hS1 : rS h'.2.1 s S := hS.of (fun b h1 h2 => e1.2 b (fun z => by unfold sA at hsA; omega))
    have hU1 : ∀ m, m < S.1.1 → ∀ n, n < 31 → h'.2.1 108 (m * 31 + n) = untI S m n := fun m hm n hn => by rw [e1.2 108 (by omega)]; exact hU m hm n hn
    have h41 : h'.2.1 26 4 = nI lg := by rw [e1.2 26 (by omega)]; exact h4
    have hl1 : ∀ k, k < lg → h'.2.1 45 k = ln k ∧ h'.2.1 46 k = lm k ∧ h'.2.1 47 k = ld k := fun k hk => by rw [e1.2 45 (by omega), e1.2 46 (by omega), e1.2 47 (by omega)]; exact hl k hk
    have hz1 : h'.2.1 107 5 = z := (e3 5 (by decide)).trans hz
    obtain ⟨d1, d2⟩ := id e2
    have cl := fa_cnt_le (ftB S z ln lm ld lg) (30 * a + k)
    have q1 : (30 * a + k) / 30 = a := by omega
    have q2 : (30 * a + k) % 30 = k := by omega
    have fe : ftB S z ln lm ld lg (30 * a + k) = (decide (posP S z a k) && agF S z ln lm ld a k lg) := by unfold ftB; rw [q1, q2]
    refine je_iload (pc := 38) d11001_38 rfl ?_
    refine je_bipush (pc := 40) (v := 30) d11001_40 rfl ?_
    refine jn_icge (pc := 42) (a := (k)) (b := 30) 103 d11001_42 (by decide) (by omega) (by omega) (fun c42 => by exfalso; omega) (fun c42 => ?_)
    refine je_aload0 (pc := 45) d11001_45 rfl ?_
    refine je_iload3 (pc := 46) d11001_46 rfl ?_
    refine je_iload (pc := 47) d11001_47 rfl ?_
    refine ju_callv (pc := 49) (as := [_, _]) d11001_49 jL_11_46 jM_Th_isPossible rfl (by decide) (sK107 H1) rfl (by exact Nat.le_of_ble_eq_true rfl) (t_Th_isPossible (d + 2) H1 hs1 P1 hS1 hU1 hmi hz1 ha (by omega)) (fun r49 h49 q49 => ?_)
    obtain ⟨rfl, e49⟩ := q49
    obtain rfl := e49.symm
    refine jb_ifeq (pc := 52) 97 d11001_52 (by decide) (fun c52 => ?_) (fun c52 => ?_)
    · refine ju_incN (pc := 97) (v := nI ((k) + 1)) (lv' := [some _, some _, some _, some _, some _]) d11001_97 rfl (nI_1 (k)) rfl ?_
      refine je_goto (pc := 100) 38 d11001_100 (by decide) ?_
      exact kk () _ ⟨e1, fnd_no (t := 30 * a + k) e2 (by rw [fe, decide_eq_false c52]; rfl), e3⟩
    · refine je_aload0 (pc := 55) d11001_55 rfl ?_
      refine je_aload1 (pc := 56) d11001_56 rfl ?_
      refine je_iload3 (pc := 57) d11001_57 rfl ?_
      refine je_iload (pc := 58) d11001_58 rfl ?_
      refine ju_callv (pc := 60) (as := [_, _, _]) d11001_60 jL_11_50 jM_Th_agrees rfl (by decide) (sK107 H1) rfl (by exact Nat.le_of_ble_eq_true rfl) (t_Th_agrees d H1 hs1 P1 hS1 hU1 hmi hz1 h41 hlg hl1 wl (by omega) (by omega)) (fun r60 h60 q60 => ?_)
      obtain ⟨rfl, e60⟩ := q60
      obtain rfl := e60.symm
      refine jb_ifeq (pc := 63) 97 d11001_63 (by decide) (fun c63 => ?_) (fun c63 => ?_)
      · refine ju_incN (pc := 97) (v := nI ((k) + 1)) (lv' := [some _, some _, some _, some _, some _]) d11001_97 rfl (nI_1 (k)) rfl ?_
        refine je_goto (pc := 100) 38 d11001_100 (by decide) ?_
        exact kk () _ ⟨e1, fnd_no (t := 30 * a + k) e2 (by rw [fe, decide_eq_true c52]; exact Bool.eq_false_iff.mpr c63), e3⟩
      · refine je_aload0 (pc := 66) d11001_66 rfl ?_
        refine ju_getr (pc := 67) (b := 109) d11001_67 jF_11_15 rfl (sK107 H1) (sR107_1 H1) ?_
        refine je_aload0 (pc := 70) d11001_70 rfl ?_
        refine ju_geti (pc := 71) d11001_71 jF_11_38 rfl (sK107 H1) ?_
        refine ju_eqi (v := nI (fa_cnt (ftB S z ln lm ld lg) (30 * a + k))) d1 ?_
        refine je_iload3 (pc := 74) d11001_74 rfl ?_
        refine ju_iast (pc := 75) (jn := (fa_cnt (ftB S z ln lm ld lg) (30 * a + k))) d11001_75 (sK109 H1) (vp_in_nI (by omega) (by decide)) (nI_clamp (by omega)) ?_
        refine je_aload0 (pc := 76) d11001_76 rfl ?_
        refine ju_getr (pc := 77) (b := 110) d11001_77 jF_11_18 rfl (sK107 H1.wI) (sR107_2 H1.wI) ?_
        refine je_aload0 (pc := 80) d11001_80 rfl ?_
        refine ju_geti (pc := 81) d11001_81 jF_11_38 rfl (sK107 H1.wI) ?_
        refine ju_eqi (v := nI (fa_cnt (ftB S z ln lm ld lg) (30 * a + k))) d1 ?_
        refine je_iload (pc := 84) d11001_84 rfl ?_
        refine ju_iast (pc := 86) (jn := (fa_cnt (ftB S z ln lm ld lg) (30 * a + k))) d11001_86 (sK110 H1.wI) (vp_in_nI (by omega) (by decide)) (nI_clamp (by omega)) ?_
        refine je_aload0 (pc := 87) d11001_87 rfl ?_
        refine je_dup (pc := 88) d11001_88 rfl ?_
        refine ju_geti (pc := 89) d11001_89 jF_11_38 rfl (sK107 H1.wI.wI) ?_
        refine ju_eqi (v := nI (fa_cnt (ftB S z ln lm ld lg) (30 * a + k))) d1 ?_
        refine je_iconst (pc := 92) (v := 1) d11001_92 rfl ?_
        refine je_iadd (pc := 93) d11001_93 ?_
        refine ju_eqi (v := nI ((fa_cnt (ftB S z ln lm ld lg) (30 * a + k)) + 1)) (nI_add (fa_cnt (ftB S z ln lm ld lg) (30 * a + k)) 1) ?_
        refine ju_puti (pc := 94) d11001_94 jF_11_38 rfl (sK107 H1.wI.wI) ?_
        refine ju_incN (pc := 97) (v := nI ((k) + 1)) (lv' := [some _, some _, some _, some _, some _]) d11001_97 rfl (nI_1 (k)) rfl ?_
        refine je_goto (pc := 100) 38 d11001_100 (by decide) ?_
        have ft : ftB S z ln lm ld lg (30 * a + k) = true := by rw [fe, decide_eq_true c52, c63]; rfl
        refine kk () _ ⟨((e1.wI (by omega)).wI (by omega)).wI (by omega), ⟨?_, fun i hi fi => ?_⟩, fun j hj => ?_⟩
        · rw [wI_at, jx_up_self, ← Nat.add_assoc, fa_cnt_yes ft]
        · rw [wI_ne _ _ _ (by decide), wI_ne _ _ _ (by decide), wI_at, wI_ne _ _ _ (by decide), wI_at, wI_ne _ _ _ (by decide)]
          by_cases c : i = 30 * a + k
          · subst c
            rw [jx_up_self, jx_up_self, q1, q2]
            exact ⟨rfl, rfl⟩
          · have := fa_cnt_inj (show i < 30 * a + k by omega) fi
            rw [jx_up_ne _ _ (by omega), jx_up_ne _ _ (by omega)]
            exact d2 i (by omega) fi
        · rw [wI_at, jx_up_ne _ _ hj, wI_ne _ _ _ (by decide), wI_ne _ _ _ (by decide)]; exact e3 j hj
  · obtain ⟨e1, e2, e3⟩ := e
    refine je_iload (pc := 38) d11001_38 rfl ?_
    refine je_bipush (pc := 40) (v := 30) d11001_40 rfl ?_
    refine jn_icge (pc := 42) (a := ((30))) (b := 30) 103 d11001_42 (by decide) (by omega) (by omega) (fun c42 => ?_) (fun c42 => by exfalso; omega)
    exact hK _ e1 (by rw [show 30 * (a + 1) = 30 * a + 30 by omega]; exact e2) e3
