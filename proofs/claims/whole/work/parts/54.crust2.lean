/-! crust: the model, the whole -/
/-- nights with a mile baked ahead of one of them -/
def obF (S : MS) (R : Option MR) (m : Nat) (we : Int32) (L : ML) : Nat → ML
  | 0 => L
  | k + 1 => nxF S R (orB (obF S R m we L k) (if nI k = we then 1 <<< (nI m &&& 31) else 0))
def hoF (S : MS) (R : Option MR) (v m : Nat) (we : Int32) (L : ML) : Nat → Nat
  | 0 => 0
  | k + 1 => hoF S R v m we L k + hmB S v (obF S R m we L (k + 1))
theorem hoF_le (S : MS) (R : Option MR) (v m : Nat) (we : Int32) (L : ML) : ∀ k, hoF S R v m we L k ≤ k
  | 0 => Nat.le_refl _
  | k + 1 => by have := hoF_le S R v m we L k; have := hmB_le S v (obF S R m we L (k + 1)); rw [hoF]; omega
theorem ob_n {S : MS} {R : Option MR} {m : Nat} {we : Int32} {L : ML} {nn : Nat} (h : L.2.2.2.2.2 = nI nn) : ∀ k, (obF S R m we L k).2.2.2.2.2 = nI (nn + k)
  | 0 => h
  | k + 1 => by
    show (obF S R m we L k).2.2.2.2.2 + 1 = _
    rw [ob_n h k, nI_1]
    rfl
theorem ob_a {S : MS} {R : Option MR} {m : Nat} {we : Int32} {L : ML} : ∀ {k : Nat}, (∀ i, i < k → ¬ nI i = we) → obF S R m we L k = nitF S R k L
  | 0, _ => rfl
  | k + 1, h => by rw [obF, ob_a (fun i hi => h i (by omega)), if_neg (h k (by omega)), orB_0]; rfl
theorem ho_a {S : MS} {R : Option MR} {v m : Nat} {we : Int32} {L : ML} : ∀ {k : Nat}, (∀ i, i < k → ¬ nI i = we) → hoF S R v m we L k = hmN S R v L k
  | 0, _ => rfl
  | k + 1, h => by rw [hoF, hmN, ho_a (fun i hi => h i (by omega)), ob_a h]
theorem ob_b {S : MS} {R : Option MR} {m x : Nat} {L : ML} : ∀ {k : Nat}, x + k + 1 < 100000 → obF S R m (nI x) L (x + k + 1) = nitF S R (k + 1) (bakL m (nitF S R x L))
  | 0, h => by
    show nxF S R (orB (obF S R m (nI x) L x) (if nI x = nI x then 1 <<< (nI m &&& 31) else 0)) = _
    rw [if_pos rfl, ob_a (fun i hi e => absurd ((nI_eq (by omega) (by omega)).mp e) (by omega))]
    rfl
  | k + 1, h => by
    show nxF S R (orB (obF S R m (nI x) L (x + k + 1)) (if nI (x + (k + 1)) = nI x then 1 <<< (nI m &&& 31) else 0)) = _
    rw [if_neg (fun e => absurd ((nI_eq (by omega) (by omega)).mp e) (by omega)), orB_0, ob_b (by omega)]
    rfl
theorem ho_b {S : MS} {R : Option MR} {v m x : Nat} {L : ML} : ∀ {k : Nat}, x + k < 100000 → hoF S R v m (nI x) L (x + k) = hmN S R v L x + hmN S R v (bakL m (nitF S R x L)) k
  | 0, h => by rw [Nat.add_zero, ho_a (fun i hi e => absurd ((nI_eq (by omega) (by omega)).mp e) (by omega))]; rfl
  | k + 1, h => by rw [show x + (k + 1) = x + k + 1 from rfl, hoF, hmN, ho_b (by omega), ob_b h, Nat.add_assoc]
theorem ho_T {S : MS} {R : Option MR} {v m x n : Nat} {L : ML} (h : x ≤ n) (hn : n < 100000) : hoF S R v m (nI x) L n = crT S R v m n L x := by
  have := ho_b (S := S) (R := R) (v := v) (m := m) (x := x) (L := L) (k := n - x) (by omega)
  rw [show x + (n - x) = n by omega] at this
  exact this
theorem ho_N {S : MS} {R : Option MR} {v m n : Nat} {L : ML} (hn : n < 100000) : hoF S R v m (-1) L n = hmN S R v L n := ho_a (fun i hi e => nI_pos (n := i) (by omega) (by rw [e]; decide))
set_option maxHeartbeats 2000000 in
theorem t_Mo_ownNights (d : Nat) {bc bs : Nat} {h : jx_H} {g : jx_H} {S : MS} {R : Option MR} {L : ML} {nn v m n : Nat} {we : Int32} (H : jx_St g) (C : mLaw g S R) (wS : wfS S) (h0 : 0 < S.1.1) (hmi : S.1.1 ≤ 10) (hL : mLa g.2.1 L) (hN : L.2.2.2.2.2 = nI nn) (k0 : mLk g h L) (hv : v < S.1.2.1) (hm : m < 10) (hn : n ≤ 60) (hnn : nn + n < 998) : jx_Tr (d + 8) bc bs 12104 [.ref 253, .int (nI m), .int (nI v), .int (nI n), .int we] h (fun r h' => r = some (.int (nI (hoF S R v m we L n))) ∧ mLk g h' L ∧ ∀ j, j < 9 → h'.2.1 254 j = g.2.1 254 j) := by
  refine jx_tr jM_Mo_ownNights rfl rfl (lv := [some (.ref 253), some (.int (nI m)), some (.int (nI v)), some (.int (nI n)), some (.int we), none, none]) rfl ?_
  have w8 := wS.2.1
  refine je_iconst (pc := 0) (v := 0) d12104_0 rfl ?_
  refine ju_istore (pc := 1) (lv' := [some _, some _, some _, some _, some _, some _, none]) d12104_1 rfl rfl ?_
  refine je_iconst (pc := 3) (v := 0) d12104_3 rfl ?_
  refine ju_istore (pc := 4) (lv' := [some _, some _, some _, some _, some _, some _, some _]) d12104_4 rfl rfl ?_
  refine je_loop (σ := Unit) (n) (fun k xx => [some (.ref 253), some (.int (nI m)), some (.int (nI v)), some (.int (nI n)), some (.int we), some (.int (nI (hoF S R v m we L k))), some (.int (nI k))]) (fun k _ h' => mLk g h' (obF S R m we L k) ∧ True) (fun k xx h' hk e kk => ?_) (fun xx h' e => ?_) (0) () h (by omega) ⟨k0, trivial⟩
  · obtain ⟨e1, e2⟩ := e
    have H1 := e1.St H
    have hok := hoF_le S R v m we L k
    refine je_iload (pc := 6) d12104_6 rfl ?_
    refine je_iload3 (pc := 8) d12104_8 rfl ?_
    refine ju_icge (pc := 9) 70 d12104_9 (by decide) (fun c9 => absurd c9 (fun z => z (nI_lt (by omega) (by omega)))) (fun c9 => ?_)
    refine je_aload0 (pc := 12) d12104_12 rfl ?_
    refine ju_getr (pc := 13) (b := 254) d12104_13 jF_12_9 rfl (sK253 H1) (sR253_1 H1) ?_
    refine je_iconst (pc := 16) (v := 4) d12104_16 rfl ?_
    refine je_dup2 (pc := 17) d12104_17 rfl rfl ?_
    refine ju_iald (pc := 18) (jn := 4) d12104_18 (sK254 H1) (by first | assumption | exact jx_ok_dec (by decide)) (by decide) ?_
    refine ju_eqi (v := (obF S R m we L k).2.2.2.2.1) e1.2.2.2.2.2.1 ?_
    refine je_iload (pc := 19) d12104_19 rfl ?_
    refine je_iload (pc := 21) d12104_21 rfl ?_
    refine ju_tern2 (pc := 23) (V := (if nI k = we then 1 <<< (nI m &&& 31) else 0)) 33 ?_ (fun jn23 => ?_)
    · refine je_ior (pc := 33) d12104_33 ?_
      refine ju_iast (pc := 34) (jn := 4) d12104_34 (sK254 H1) (by first | assumption | exact jx_ok_dec (by decide)) (by decide) ?_
      have k2 : mLk g (jx_wI h' 254 4 ((obF S R m we L k).2.2.2.2.1 ||| (if nI k = we then 1 <<< (nI m &&& 31) else 0))) (orB (obF S R m we L k) (if nI k = we then 1 <<< (nI m &&& 31) else 0)) := e1.fr (fC.rf.wI (A := fun b => b = 254) rfl) (fun b hb => by omega) (fun j hj => by rw [wI_at, jx_up_ne _ _ (by omega)]) e1.2.2.2.wb
      have H2 := k2.St H
      refine je_aload0 (pc := 35) d12104_35 rfl ?_
      refine ju_callv (pc := 36) (as := []) d12104_36 jL_12_439 jM_Mo_goesNight rfl (by decide) (sK253 H1.wI) rfl (by exact Nat.le_of_ble_eq_true rfl) (t_Mo_goesNight d H2 (k2.law C) wS h0 hmi k2.2.2.2 (ob_n hN k) (by omega)) (fun r36 h36 q36 => ?_)
      obtain ⟨rfl, f1, f2⟩ := q36
      have k6 : mLk g h36 (obF S R m we L (k + 1)) := k2.N f1 f2
      have H3 := k6.St H
      refine je_pop (pc := 39) d12104_39 rfl ?_
      refine je_iload (pc := 40) d12104_40 rfl ?_
      refine je_aload0 (pc := 42) d12104_42 rfl ?_
      refine je_iload2 (pc := 43) d12104_43 rfl ?_
      refine ju_callv (pc := 44) (as := [_]) d12104_44 jL_12_394 jM_Mo_sideOf rfl (by decide) (sK253 H3) rfl (by exact Nat.le_of_ble_eq_true rfl) (mo_side (d + 6) (l := (obF S R m we L (k + 1)).1) H3 (k6.law C).1 wS (fun m hm => (k6.2.2.2.1 m hm).1) hv) (fun r44 h44 q44 => ?_)
      obtain ⟨rfl, e44⟩ := q44
      obtain rfl := e44.symm
      refine je_aload0 (pc := 47) d12104_47 rfl ?_
      refine ju_getr (pc := 48) (b := 261) d12104_48 jF_12_31 rfl (sK253 H3) (sR253_8 H3) ?_
      refine je_iload2 (pc := 51) d12104_51 rfl ?_
      refine ju_iald (pc := 52) (jn := (v)) d12104_52 (sK261 H3) (vp_in_nI (by omega) (by decide)) (nI_clamp (by omega)) ?_
      refine ju_eqi (v := S.2.1.2.2.2.1 v) ((k6.law C).1.2.2.1 v hv).2.2 ?_
      refine ju_tern2 (pc := 53) (V := nI (if sdM S ((obF S R m we L (k + 1))).1 v = S.2.1.2.2.2.1 v then 1 else 0)) 61 ?_ (fun jn53 => ?_)
      · refine je_iadd (pc := 61) d12104_61 ?_
        refine ju_eqi (v := nI ((hoF S R v m we L k) + ((if sdM S ((obF S R m we L (k + 1))).1 v = S.2.1.2.2.2.1 v then 1 else 0)))) (nI_add (hoF S R v m we L k) ((if sdM S ((obF S R m we L (k + 1))).1 v = S.2.1.2.2.2.1 v then 1 else 0))) ?_
        refine ju_istore (pc := 62) (lv' := [some _, some _, some _, some _, some _, some _, some _]) d12104_62 rfl rfl ?_
        refine ju_inc (pc := 64) (y := 1) (lv' := [some _, some _, some _, some _, some _, some _, some _]) d12104_64 rfl rfl rfl ?_
        refine je_goto (pc := 67) 6 d12104_67 (by decide) ?_
        rw [nI_1 k]
        exact kk () _ ⟨k6, trivial⟩
      · refine je_icne (pc := 53) 60 d12104_53 (by decide) (fun c53 => ?_) (fun c53 => ?_)
        · refine je_iconst (pc := 60) (v := 0) d12104_60 rfl ?_
          refine ju_eqi (v := nI (if sdM S ((obF S R m we L (k + 1))).1 v = S.2.1.2.2.2.1 v then 1 else 0)) (by rw [if_neg c53]; rfl) ?_
          exact jn53
        · refine je_iconst (pc := 56) (v := 1) d12104_56 rfl ?_
          refine je_goto (pc := 57) 61 d12104_57 (by decide) ?_
          refine ju_eqi (v := nI (if sdM S ((obF S R m we L (k + 1))).1 v = S.2.1.2.2.2.1 v then 1 else 0)) (by rw [if_pos c53]; rfl) ?_
          exact jn53
    · refine je_icne (pc := 23) 32 d12104_23 (by decide) (fun c23 => ?_) (fun c23 => ?_)
      · refine je_iconst (pc := 32) (v := 0) d12104_32 rfl ?_
        refine ju_eqi (v := (if nI k = we then 1 <<< (nI m &&& 31) else 0)) (by rw [if_neg c23]) ?_
        exact jn23
      · refine je_iconst (pc := 26) (v := 1) d12104_26 rfl ?_
        refine je_iload1 (pc := 27) d12104_27 rfl ?_
        refine je_ishl (pc := 28) d12104_28 ?_
        refine je_goto (pc := 29) 33 d12104_29 (by decide) ?_
        refine ju_eqi (v := (if nI k = we then 1 <<< (nI m &&& 31) else 0)) (by rw [if_pos c23]) ?_
        exact jn23
  · obtain ⟨e1, e2⟩ := e
    have H1 := e1.St H
    have hok := hoF_le S R v m we L n
    refine je_iload (pc := 6) d12104_6 rfl ?_
    refine je_iload3 (pc := 8) d12104_8 rfl ?_
    refine ju_icge (pc := 9) 70 d12104_9 (by decide) (fun c9 => ?_) (fun c9 => absurd c9 (nI_nlt (Nat.le_refl n) (by omega)))
    refine je_aload0 (pc := 70) d12104_70 rfl ?_
    refine ju_callv (pc := 71) (as := []) d12104_71 jL_12_491 jM_Mo_laysBack rfl (by decide) (sK253 H1) rfl (by exact Nat.le_of_ble_eq_true rfl) (t_Mo_laysBack (d + 4) H1 e1 hL) (fun r71 h71 q71 => ?_)
    obtain ⟨rfl, k4, k5⟩ := q71
    refine je_iload (pc := 74) d12104_74 rfl ?_
    refine je_iret (pc := 76) d12104_76 rfl ?_
    exact ⟨rfl, k4, k5⟩
set_option maxHeartbeats 2000000 in
theorem t_Db_crust_n (d : Nat) {bc bs : Nat} {h : jx_H} {s : Nat} (H : jx_St h) (hr : h.2.2.2 26 0 = some s) (P : jx_Sp h s) (x y z u : Int32) (G : ¬ ((¬ x < 0 ∧ x < h.2.1 s 0) ∧ (¬ y < 0 ∧ y < h.2.1 s 2) ∧ ¬ z < 1 ∧ ¬ 60 < z ∧ ¬ u < 0 ∧ ¬ 1 < u)) : jx_Tr (d + 7) bc bs 33 [.ref 1, .int x, .int y, .int z, .int u] h (fun r h' => r = some (.int (-2)) ∧ h' = h) := by
  refine jx_tr jM_Db_crust rfl rfl (lv := [some (.ref 1), some (.int x), some (.int y), some (.int z), some (.int u)]) rfl ?_
  refine je_aload0 (pc := 0) d33_0 rfl ?_
  refine je_iload1 (pc := 1) d33_1 rfl ?_
  refine ju_callv (pc := 2) (as := [_]) d33_2 jL_0_120 jM_Db_isMile rfl (by decide) (sK1 H) rfl (by exact Nat.le_of_ble_eq_true rfl) (t_Db_isMile (d + 5) H hr P _) (fun r2 h2 q2 => ?_)
  obtain ⟨rfl, e2⟩ := q2
  obtain rfl := e2.symm
  refine jb_ifeq (pc := 5) 38 d33_5 (by decide) (fun c5 => ?_) (fun c5 => ?_)
  · refine je_bipush (pc := 38) (v := -2) d33_38 rfl ?_
    refine je_iret (pc := 40) d33_40 rfl ?_
    exact ⟨rfl, rfl⟩
  · refine je_aload0 (pc := 8) d33_8 rfl ?_
    refine je_iload2 (pc := 9) d33_9 rfl ?_
    refine ju_callv (pc := 10) (as := [_]) d33_10 jL_0_150 jM_Db_isVillage rfl (by decide) (sK1 H) rfl (by exact Nat.le_of_ble_eq_true rfl) (t_Db_isVillage (d + 5) H hr P _) (fun r10 h10 q10 => ?_)
    obtain ⟨rfl, e10⟩ := q10
    obtain rfl := e10.symm
    refine jb_ifeq (pc := 13) 38 d33_13 (by decide) (fun c13 => ?_) (fun c13 => ?_)
    · refine je_bipush (pc := 38) (v := -2) d33_38 rfl ?_
      refine je_iret (pc := 40) d33_40 rfl ?_
      exact ⟨rfl, rfl⟩
    · refine je_iload3 (pc := 16) d33_16 rfl ?_
      refine je_iconst (pc := 17) (v := 1) d33_17 rfl ?_
      refine je_iclt (pc := 18) 38 d33_18 (by decide) (fun c18 => ?_) (fun c18 => ?_)
      · refine je_bipush (pc := 38) (v := -2) d33_38 rfl ?_
        refine je_iret (pc := 40) d33_40 rfl ?_
        exact ⟨rfl, rfl⟩
      · refine je_iload3 (pc := 21) d33_21 rfl ?_
        refine je_bipush (pc := 22) (v := 60) d33_22 rfl ?_
        refine je_icgt (pc := 24) 38 d33_24 (by decide) (fun c24 => ?_) (fun c24 => ?_)
        · refine je_bipush (pc := 38) (v := -2) d33_38 rfl ?_
          refine je_iret (pc := 40) d33_40 rfl ?_
          exact ⟨rfl, rfl⟩
        · refine je_iload (pc := 27) d33_27 rfl ?_
          refine je_iflt (pc := 29) 38 d33_29 (by decide) (fun c29 => ?_) (fun c29 => ?_)
          · refine je_bipush (pc := 38) (v := -2) d33_38 rfl ?_
            refine je_iret (pc := 40) d33_40 rfl ?_
            exact ⟨rfl, rfl⟩
          · refine je_iload (pc := 32) d33_32 rfl ?_
            refine je_iconst (pc := 34) (v := 1) d33_34 rfl ?_
            refine ju_icle (pc := 35) 41 d33_35 (by decide) (fun c35 => absurd c35 (fun q => G ⟨c5, c13, c18, c24, c29, q⟩)) (fun c35 => ?_)
            refine je_bipush (pc := 38) (v := -2) d33_38 rfl ?_
            refine je_iret (pc := 40) d33_40 rfl ?_
            exact ⟨rfl, rfl⟩
theorem ol_seek (d : Nat) {bc bs : Nat} {h : jx_H} {S : MS} {R : Option MR} {L : ML} {nn : Nat} (H : jx_St h) (C : cLaw h S R) (wS : wfS S) (h0 : 0 < S.1.1) (hL : rL h.2.1 40 L) (hN : L.2.2.2.2.2 = nI nn) {v m n M : Nat} {o : Option Nat} (hv : v < S.1.2.1) (hm : m < 10) (h1n : 1 ≤ n) (hn : n ≤ 60) (hnn : nn + n < 998) (hCR : (if bkd L.2.2.2.2.1 (nI m) then o = none ∧ M = hmN S R v L n else CR (crT S R v m n L) n (hmN S R v L n) 0 o M)) : jx_Tr (d + 6) bc bs 9003 [.ref 67, .ref 40, .int (nI m), .int (nI v), .int (nI n)] h (fun r h' => r = none ∧ fC (fun b => b = 65 ∨ 67 ≤ b ∧ b ≤ 77) h h' ∧ h'.2.1 67 4 = ovN nn o ∧ h'.2.1 67 5 = nI M) := by
  by_cases c : bkd L.2.2.2.2.1 (nI m)
  · rw [if_pos c] at hCR
    exact t_Ol_seekCrust_b d H C wS h0 hL hN hv hm h1n hn hnn c hCR
  · rw [if_neg c] at hCR
    exact t_Ol_seekCrust d H C wS h0 hL hN hv hm h1n hn hnn c hCR
set_option maxHeartbeats 2000000 in
theorem t_Db_crust (d : Nat) {bc bs : Nat} {h : jx_H} {S : MS} {R : Option MR} {L : ML} {nn : Nat} (H : jx_St h) (C : cLaw h S R) (wS : wfS S) (h0 : 0 < S.1.1) (hL : rL h.2.1 40 L) (hN : L.2.2.2.2.2 = nI nn) {s : Nat} (hr : h.2.2.2 26 0 = some s) (P : jx_Sp h s) (hS : rS h.2.1 s S) {v m n M : Nat} {o : Option Nat} (u : Int32) (hv : v < S.1.2.1) (hm : m < S.1.1) (hmi : S.1.1 ≤ 10) (h1n : 1 ≤ n) (hn : n ≤ 60) (hnn : nn + n < 998) (hu : ¬ u < 0 ∧ ¬ 1 < u) (hCR : (if bkd L.2.2.2.2.1 (nI m) then o = none ∧ M = hmN S R v L n else CR (crT S R v m n L) n (hmN S R v L n) 0 o M)) : jx_Tr (d + 7) bc bs 33 [.ref 1, .int (nI m), .int (nI v), .int (nI n), .int u] h (fun r h' => r = some (.int (if u = 0 then ovN nn o else nI M)) ∧ fC (fun b => b = 65 ∨ 67 ≤ b ∧ b ≤ 77) h h') := by
  refine jx_tr jM_Db_crust rfl rfl (lv := [some (.ref 1), some (.int (nI m)), some (.int (nI v)), some (.int (nI n)), some (.int u)]) rfl ?_
  have w8 := wS.2.1
  refine je_aload0 (pc := 0) d33_0 rfl ?_
  refine je_iload1 (pc := 1) d33_1 rfl ?_
  refine ju_callv (pc := 2) (as := [_]) d33_2 jL_0_120 jM_Db_isMile rfl (by decide) (sK1 H) rfl (by exact Nat.le_of_ble_eq_true rfl) (t_Db_isMile (d + 5) H hr P _) (fun r2 h2 q2 => ?_)
  obtain ⟨rfl, e2⟩ := q2
  obtain rfl := e2.symm
  refine jb_ifeq (pc := 5) 38 d33_5 (by decide) (fun c5 => absurd c5 (fun q => q (by rw [hS.1.1]; exact isM_nI hm (by omega)))) (fun c5 => ?_)
  refine je_aload0 (pc := 8) d33_8 rfl ?_
  refine je_iload2 (pc := 9) d33_9 rfl ?_
  refine ju_callv (pc := 10) (as := [_]) d33_10 jL_0_150 jM_Db_isVillage rfl (by decide) (sK1 H) rfl (by exact Nat.le_of_ble_eq_true rfl) (t_Db_isVillage (d + 5) H hr P _) (fun r10 h10 q10 => ?_)
  obtain ⟨rfl, e10⟩ := q10
  obtain rfl := e10.symm
  refine jb_ifeq (pc := 13) 38 d33_13 (by decide) (fun c13 => absurd c13 (fun q => q (by rw [hS.1.2.2.1]; exact isM_nI hv (by omega)))) (fun c13 => ?_)
  refine je_iload3 (pc := 16) d33_16 rfl ?_
  refine je_iconst (pc := 17) (v := 1) d33_17 rfl ?_
  refine jn_iclt (pc := 18) (a := (n)) (b := 1) 38 d33_18 (by decide) (by omega) (by omega) (fun c18 => by exfalso; omega) (fun c18 => ?_)
  refine je_iload3 (pc := 21) d33_21 rfl ?_
  refine je_bipush (pc := 22) (v := 60) d33_22 rfl ?_
  refine jn_icgt (pc := 24) (a := (n)) (b := 60) 38 d33_24 (by decide) (by omega) (by omega) (fun c24 => by exfalso; omega) (fun c24 => ?_)
  refine je_iload (pc := 27) d33_27 rfl ?_
  refine je_iflt (pc := 29) 38 d33_29 (by decide) (fun c29 => absurd c29 hu.1) (fun c29 => ?_)
  refine je_iload (pc := 32) d33_32 rfl ?_
  refine je_iconst (pc := 34) (v := 1) d33_34 rfl ?_
  refine ju_icle (pc := 35) 41 d33_35 (by decide) (fun c35 => ?_) (fun c35 => absurd c35 hu.2)
  refine je_aload0 (pc := 41) d33_41 rfl ?_
  refine ju_getr (pc := 42) (b := 67) d33_42 jF_0_65 rfl (sK1 H) (sR1_9 H) ?_
  refine je_aload0 (pc := 45) d33_45 rfl ?_
  refine ju_getr (pc := 46) (b := 26) d33_46 jF_0_41 rfl (sK1 H) (sR1_5 H) ?_
  refine ju_getr (pc := 49) (b := 40) d33_49 jF_0_124 rfl (sK26 H) (sR26_1 H) ?_
  refine je_iload1 (pc := 52) d33_52 rfl ?_
  refine je_iload2 (pc := 53) d33_53 rfl ?_
  refine je_iload3 (pc := 54) d33_54 rfl ?_
  refine ju_callv (pc := 55) (as := [_, _, _, _]) d33_55 jL_0_280 jM_Ol_seekCrust rfl (by decide) (sK67 H) rfl (by exact Nat.le_of_ble_eq_true rfl) (ol_seek d H C wS h0 hL hN hv (by omega) h1n hn hnn hCR) (fun r55 h55 q55 => ?_)
  obtain ⟨rfl, f1, f2, f3⟩ := q55
  have H2 := f1.St H
  refine je_iload (pc := 58) d33_58 rfl ?_
  refine je_ifne (pc := 60) 73 d33_60 (by decide) (fun c60 => ?_) (fun c60 => ?_)
  · refine je_aload0 (pc := 73) d33_73 rfl ?_
    refine ju_getr (pc := 74) (b := 67) d33_74 jF_0_65 rfl (sK1 H2) (sR1_9 H2) ?_
    refine ju_geti (pc := 77) d33_77 jF_0_287 rfl (sK67 H2) ?_
    refine ju_eqi (v := nI M) f3 ?_
    refine je_iret (pc := 80) d33_80 rfl ?_
    exact ⟨by rw [if_neg c60], f1⟩
  · refine je_aload0 (pc := 63) d33_63 rfl ?_
    refine ju_getr (pc := 64) (b := 67) d33_64 jF_0_65 rfl (sK1 H2) (sR1_9 H2) ?_
    refine ju_geti (pc := 67) d33_67 jF_0_284 rfl (sK67 H2) ?_
    refine ju_eqi (v := ovN nn o) f2 ?_
    refine je_goto (pc := 70) 80 d33_70 (by decide) ?_
    refine je_iret (pc := 80) d33_80 rfl ?_
    exact ⟨by rw [if_pos c60], f1⟩
set_option maxHeartbeats 2000000 in
theorem t_Mo_crust_n (d : Nat) {bc bs : Nat} {h : jx_H} {mi nv : Nat} (H : jx_St h) (hm : h.2.1 254 0 = nI mi) (hmi : mi ≤ 10) (hv : h.2.1 254 2 = nI nv) (hnv : nv ≤ 8) (x y z u : Int32) (G : ¬ (isM x mi ∧ isM y nv ∧ (¬ z < 1 ∧ ¬ 60 < z) ∧ (¬ u < 0 ∧ ¬ 1 < u))) : jx_Tr (d + 9) bc bs 12103 [.ref 253, .int x, .int y, .int z, .int u] h (fun r h' => r = some (.int (-2)) ∧ h' = h) := by
  refine jx_tr jM_Mo_crust rfl rfl (lv := [some (.ref 253), some (.int x), some (.int y), some (.int z), some (.int u), none, none, none, none]) rfl ?_
  refine je_aload0 (pc := 0) d12103_0 rfl ?_
  refine je_iload1 (pc := 1) d12103_1 rfl ?_
  refine ju_callv (pc := 2) (as := [_]) d12103_2 jL_12_178 jM_Mo_isMile rfl (by decide) (sK253 H) rfl (by exact Nat.le_of_ble_eq_true rfl) (t_Mo_isMile (d + 6) H _ hm (by omega)) (fun r2 h2 q2 => ?_)
  obtain ⟨rfl, e2⟩ := q2
  obtain rfl := e2.symm
  refine jb_ifeq (pc := 5) 39 d12103_5 (by decide) (fun c5 => ?_) (fun c5 => ?_)
  · refine je_bipush (pc := 39) (v := -2) d12103_39 rfl ?_
    refine je_iret (pc := 41) d12103_41 rfl ?_
    exact ⟨rfl, rfl⟩
  · refine je_aload0 (pc := 8) d12103_8 rfl ?_
    refine je_iload2 (pc := 9) d12103_9 rfl ?_
    refine ju_callv (pc := 10) (as := [_]) d12103_10 jL_12_397 jM_Mo_isVillage rfl (by decide) (sK253 H) rfl (by exact Nat.le_of_ble_eq_true rfl) (t_Mo_isVillage (d + 6) H _ hv (by omega)) (fun r10 h10 q10 => ?_)
    obtain ⟨rfl, e10⟩ := q10
    obtain rfl := e10.symm
    refine jb_ifeq (pc := 13) 39 d12103_13 (by decide) (fun c13 => ?_) (fun c13 => ?_)
    · refine je_bipush (pc := 39) (v := -2) d12103_39 rfl ?_
      refine je_iret (pc := 41) d12103_41 rfl ?_
      exact ⟨rfl, rfl⟩
    · refine je_iload3 (pc := 16) d12103_16 rfl ?_
      refine je_i2l (pc := 17) d12103_17 ?_
      refine je_lconst1 (pc := 18) d12103_18 ?_
      refine je_ldc2 (pc := 19) d12103_19 jK_12_543 ?_
      refine ju_calls (pc := 22) (as := [_, _, _]) d12103_22 jL_12_170 jM_Mo_in rfl rfl (by exact Nat.le_of_ble_eq_true rfl) (t_Mo_in (d + 7) _ _ _) (fun r22 h22 q22 => ?_)
      obtain ⟨rfl, e22⟩ := q22
      obtain rfl := e22.symm
      refine ju_eqi (v := b2 (¬ z < 1 ∧ ¬ 60 < z)) (in_1 z (n := 60) (by decide)) ?_
      refine jb_ifeq (pc := 25) 39 d12103_25 (by decide) (fun c25 => ?_) (fun c25 => ?_)
      · refine je_bipush (pc := 39) (v := -2) d12103_39 rfl ?_
        refine je_iret (pc := 41) d12103_41 rfl ?_
        exact ⟨rfl, rfl⟩
      · refine je_iload (pc := 28) d12103_28 rfl ?_
        refine je_i2l (pc := 30) d12103_30 ?_
        refine je_lconst0 (pc := 31) d12103_31 ?_
        refine je_lconst1 (pc := 32) d12103_32 ?_
        refine ju_calls (pc := 33) (as := [_, _, _]) d12103_33 jL_12_170 jM_Mo_in rfl rfl (by exact Nat.le_of_ble_eq_true rfl) (t_Mo_in (d + 7) _ _ _) (fun r33 h33 q33 => ?_)
        obtain ⟨rfl, e33⟩ := q33
        obtain rfl := e33.symm
        refine ju_eqi (v := b2 (¬ u < 0 ∧ ¬ 1 < u)) (in_0 u (n := 1) (by decide)) ?_
        refine jb_ifne (pc := 36) 42 d12103_36 (by decide) (fun c36 => absurd c36 (fun q => G ⟨c5, c13, c25, q⟩)) (fun c36 => ?_)
        refine je_bipush (pc := 39) (v := -2) d12103_39 rfl ?_
        refine je_iret (pc := 41) d12103_41 rfl ?_
        exact ⟨rfl, rfl⟩
def ovM : Option Nat → Int32
  | none => -1
  | some b => nI b
theorem u_01 {u : Int32} (h : ¬ u < 0 ∧ ¬ 1 < u) (c : ¬ u = 1) : u = 0 := by
  rw [fa_lt, fa_lt, show (0 : Int32).toInt = 0 from rfl, show (1 : Int32).toInt = 1 from rfl] at h
  rw [fa_eq, show (1 : Int32).toInt = 1 from rfl] at c
  rw [fa_eq, show (0 : Int32).toInt = 0 from rfl]
  omega
theorem xm1 (x : Int32) : x + -1 = x - 1 := (Int32.sub_eq_add_neg x 1).symm
set_option maxHeartbeats 8000000 in
theorem t_Mo_crust_b (d : Nat) {bc bs : Nat} {h : jx_H} {S : MS} {R : Option MR} {L : ML} {nn : Nat} (H : jx_St h) (C : mLaw h S R) (wS : wfS S) (h0 : 0 < S.1.1) (hmi : S.1.1 ≤ 10) (hL : mLa h.2.1 L) (hN : L.2.2.2.2.2 = nI nn) {v m n M : Nat} {o : Option Nat} (u : Int32) (hv : v < S.1.2.1) (hm : m < S.1.1) (h1n : 1 ≤ n) (hn : n ≤ 60) (hnn : nn + n < 998) (hu : ¬ u < 0 ∧ ¬ 1 < u) (hb : bkd L.2.2.2.2.1 (nI m)) (hCR : o = none ∧ M = hmN S R v L n) : jx_Tr (d + 9) bc bs 12103 [.ref 253, .int (nI m), .int (nI v), .int (nI n), .int u] h (fun r h' => r = some (.int (if u = 0 then ovN nn o else nI M)) ∧ mLk h h' L ∧ ∀ j, j < 9 → h'.2.1 254 j = h.2.1 254 j) := by
  refine jx_tr jM_Mo_crust rfl rfl (lv := [some (.ref 253), some (.int (nI m)), some (.int (nI v)), some (.int (nI n)), some (.int u), none, none, none, none]) rfl ?_
  have w8 := wS.2.1
  have hon := hoF_le S R v m (-1) L n
  refine je_aload0 (pc := 0) d12103_0 rfl ?_
  refine je_iload1 (pc := 1) d12103_1 rfl ?_
  refine ju_callv (pc := 2) (as := [_]) d12103_2 jL_12_178 jM_Mo_isMile rfl (by decide) (sK253 H) rfl (by exact Nat.le_of_ble_eq_true rfl) (t_Mo_isMile (d + 6) H _ C.1.1.1 (by omega)) (fun r2 h2 q2 => ?_)
  obtain ⟨rfl, e2⟩ := q2
  obtain rfl := e2.symm
  refine jb_ifeq (pc := 5) 39 d12103_5 (by decide) (fun c5 => absurd c5 (fun q => q (isM_nI hm (by omega)))) (fun c5 => ?_)
  refine je_aload0 (pc := 8) d12103_8 rfl ?_
  refine je_iload2 (pc := 9) d12103_9 rfl ?_
  refine ju_callv (pc := 10) (as := [_]) d12103_10 jL_12_397 jM_Mo_isVillage rfl (by decide) (sK253 H) rfl (by exact Nat.le_of_ble_eq_true rfl) (t_Mo_isVillage (d + 6) H _ C.1.1.2.2.1 (by omega)) (fun r10 h10 q10 => ?_)
  obtain ⟨rfl, e10⟩ := q10
  obtain rfl := e10.symm
  refine jb_ifeq (pc := 13) 39 d12103_13 (by decide) (fun c13 => absurd c13 (fun q => q (isM_nI hv (by omega)))) (fun c13 => ?_)
  refine je_iload3 (pc := 16) d12103_16 rfl ?_
  refine je_i2l (pc := 17) d12103_17 ?_
  refine je_lconst1 (pc := 18) d12103_18 ?_
  refine je_ldc2 (pc := 19) d12103_19 jK_12_543 ?_
  refine ju_calls (pc := 22) (as := [_, _, _]) d12103_22 jL_12_170 jM_Mo_in rfl rfl (by exact Nat.le_of_ble_eq_true rfl) (t_Mo_in (d + 7) _ _ _) (fun r22 h22 q22 => ?_)
  obtain ⟨rfl, e22⟩ := q22
  obtain rfl := e22.symm
  refine ju_eqi (v := b2 (¬ nI n < 1 ∧ ¬ 60 < nI n)) (in_1 (nI n) (n := 60) (by decide)) ?_
  refine jb_ifeq (pc := 25) 39 d12103_25 (by decide) (fun c25 => absurd c25 (fun q => q ⟨nI_nlt (b := 1) h1n (by omega), nI_nlt (a := 60) (b := n) hn (by decide)⟩)) (fun c25 => ?_)
  refine je_iload (pc := 28) d12103_28 rfl ?_
  refine je_i2l (pc := 30) d12103_30 ?_
  refine je_lconst0 (pc := 31) d12103_31 ?_
  refine je_lconst1 (pc := 32) d12103_32 ?_
  refine ju_calls (pc := 33) (as := [_, _, _]) d12103_33 jL_12_170 jM_Mo_in rfl rfl (by exact Nat.le_of_ble_eq_true rfl) (t_Mo_in (d + 7) _ _ _) (fun r33 h33 q33 => ?_)
  obtain ⟨rfl, e33⟩ := q33
  obtain rfl := e33.symm
  refine ju_eqi (v := b2 (¬ u < 0 ∧ ¬ 1 < u)) (in_0 u (n := 1) (by decide)) ?_
  refine jb_ifne (pc := 36) 42 d12103_36 (by decide) (fun c36 => ?_) (fun c36 => absurd c36 (fun q => absurd hu q))
  refine je_aload0 (pc := 42) d12103_42 rfl ?_
  refine ju_callv (pc := 43) (as := []) d12103_43 jL_12_482 jM_Mo_keepsAll rfl (by decide) (sK253 H) rfl (by exact Nat.le_of_ble_eq_true rfl) (t_Mo_keepsAll (d + 5) H hL) (fun r43 h43 q43 => ?_)
  obtain ⟨rfl, k1, k2⟩ := q43
  have H1 := k1.St H
  have C1 := k1.law C
  refine je_iconst (pc := 46) (v := -1) d12103_46 rfl ?_
  refine ju_istore (pc := 47) (lv' := [some _, some _, some _, some _, some _, some _, none, none, none]) d12103_47 rfl rfl ?_
  refine je_aload0 (pc := 49) d12103_49 rfl ?_
  refine je_iload1 (pc := 50) d12103_50 rfl ?_
  refine je_iload2 (pc := 51) d12103_51 rfl ?_
  refine je_iload3 (pc := 52) d12103_52 rfl ?_
  refine je_iconst (pc := 53) (v := -1) d12103_53 rfl ?_
  refine ju_callv (pc := 54) (as := [_, _, _, _]) d12103_54 jL_12_545 jM_Mo_ownNights rfl (by decide) (sK253 H1) rfl (by exact Nat.le_of_ble_eq_true rfl) (t_Mo_ownNights d (we := -1) H C wS h0 hmi hL hN k1 hv (by omega) hn hnn) (fun r54 h54 q54 => ?_)
  obtain ⟨rfl, k54, l54⟩ := q54
  have H54_ := k54.St H
  refine ju_istore (pc := 57) (lv' := [some _, some _, some _, some _, some _, some _, some _, none, none]) d12103_57 rfl rfl ?_
  refine je_iload3 (pc := 59) d12103_59 rfl ?_
  refine je_iconst (pc := 60) (v := 1) d12103_60 rfl ?_
  refine je_isub (pc := 61) d12103_61 ?_
  refine ju_istore (pc := 62) (lv' := [some _, some _, some _, some _, some _, some _, some _, some _, none]) d12103_62 rfl rfl ?_
  refine je_loop (σ := Option Nat × Nat × Option Value) (n) (fun k xx => [some (.ref 253), some (.int (nI m)), some (.int (nI v)), some (.int (nI n)), some (.int u), some (.int (ovM xx.1)), some (.int (nI xx.2.1)), some (.int (nI (n - k) - 1)), xx.2.2]) (fun k xx h' => mLk h h' L ∧ (∀ j, j < 9 → h'.2.1 254 j = h.2.1 254 j) ∧ (xx.1 = none ∧ xx.2.1 = hmN S R v L n)) (fun k xx h' hk e kk => ?_) (fun xx h' e => ?_) (0) (none, _, none) h54 (by omega) ⟨k54, l54, rfl, ho_N (by omega)⟩
  · obtain ⟨e1, e2, e3⟩ := e
    have H1 := e1.St H
    have eb : h'.2.1 254 4 = L.2.2.2.2.1 := e1.2.2.2.2.2.1
    have e5 : h'.2.1 254 5 = nI nn := e1.2.2.2.2.2.2.trans hN
    have ek : nI (n - k) - 1 = nI (n - k - 1) := by
      have := pk_sub (a := n - k) (b := 1) (by omega)
      exact this
    rw [ek]
    refine je_iload (pc := 64) d12103_64 rfl ?_
    refine jn_iflt (pc := 66) (a := (n - k - 1)) 126 d12103_66 (by decide) (by omega) (fun c66 => by exfalso; omega) (fun c66 => ?_)
    refine je_aload0 (pc := 69) d12103_69 rfl ?_
    refine je_iload1 (pc := 70) d12103_70 rfl ?_
    refine ju_callv (pc := 71) (as := [_]) d12103_71 jL_12_182 jM_Mo_isBaked rfl (by decide) (sK253 H1) rfl (by exact Nat.le_of_ble_eq_true rfl) (t_Mo_isBaked (d + 6) H1 _) (fun r71 h71 q71 => ?_)
    obtain ⟨rfl, e71⟩ := q71
    obtain rfl := e71.symm
    refine jb_ifne (pc := 74) 126 d12103_74 (by decide) (fun c74 => ?_) (fun c74 => absurd c74 (fun q => q (by rw [eb]; exact hb)))
    refine je_iload (pc := 126) d12103_126 rfl ?_
    refine je_iconst (pc := 128) (v := 1) d12103_128 rfl ?_
    refine je_icne (pc := 129) 137 d12103_129 (by decide) (fun c129 => ?_) (fun c129 => ?_)
    · refine je_iload (pc := 137) d12103_137 rfl ?_
      refine je_iconst (pc := 139) (v := -1) d12103_139 rfl ?_
      refine je_icne (pc := 140) 147 d12103_140 (by decide) (fun c140 => ?_) (fun c140 => ?_)
      · refine je_aload0 (pc := 147) d12103_147 rfl ?_
        refine ju_getr (pc := 148) (b := 254) d12103_148 jF_12_9 rfl (sK253 H1) (sR253_1 H1) ?_
        refine je_iconst (pc := 151) (v := 5) d12103_151 rfl ?_
        refine ju_iald (pc := 152) (jn := 5) d12103_152 (sK254 H1) (by first | assumption | exact jx_ok_dec (by decide)) (by decide) ?_
        refine ju_eqi (v := nI nn) e5 ?_
        refine je_iload (pc := 153) d12103_153 rfl ?_
        refine je_iadd (pc := 155) d12103_155 ?_
        refine je_iret (pc := 156) d12103_156 rfl ?_
        obtain ⟨ro, rM⟩ := hCR
        obtain ⟨so, sM⟩ := e3
        have xb : ∀ b, xx.1 = some b → b < n := fun b hb => by rw [so] at hb; cases hb
        rw [show o = xx.1 from ro.trans so.symm, show M = xx.2.1 from rM.trans sM.symm]
        have u0 : u = 0 := u_01 hu c129
        refine ⟨?_, e1, e2⟩
        rw [if_pos u0]
        match xx, c140 with
        | (some b, M, x8), _ => exact congrArg (fun x => some (Value.int x)) (nI_add nn b)
        | (none, M, x8), c => exact absurd rfl c
      · refine je_iconst (pc := 143) (v := -1) d12103_143 rfl ?_
        refine je_goto (pc := 144) 156 d12103_144 (by decide) ?_
        refine je_iret (pc := 156) d12103_156 rfl ?_
        obtain ⟨ro, rM⟩ := hCR
        obtain ⟨so, sM⟩ := e3
        have xb : ∀ b, xx.1 = some b → b < n := fun b hb => by rw [so] at hb; cases hb
        rw [show o = xx.1 from ro.trans so.symm, show M = xx.2.1 from rM.trans sM.symm]
        have u0 : u = 0 := u_01 hu c129
        refine ⟨?_, e1, e2⟩
        rw [if_pos u0]
        match xx, c140, xb with
        | (none, M, x8), _, _ => rfl
        | (some b, M, x8), c, xb => exact absurd c (fun q => nI_pos (n := b) (by have := xb b rfl; omega) (show nI b < 0 by rw [show nI b = -1 from q]; decide))
    · refine je_iload (pc := 132) d12103_132 rfl ?_
      refine je_goto (pc := 134) 156 d12103_134 (by decide) ?_
      refine je_iret (pc := 156) d12103_156 rfl ?_
      obtain ⟨ro, rM⟩ := hCR
      obtain ⟨so, sM⟩ := e3
      have xb : ∀ b, xx.1 = some b → b < n := fun b hb => by rw [so] at hb; cases hb
      rw [show o = xx.1 from ro.trans so.symm, show M = xx.2.1 from rM.trans sM.symm]
      exact ⟨by rw [if_neg (by rw [c129]; decide)], e1, e2⟩
  · obtain ⟨e1, e2, e3⟩ := e
    have H1 := e1.St H
    have eb : h'.2.1 254 4 = L.2.2.2.2.1 := e1.2.2.2.2.2.1
    have e5 : h'.2.1 254 5 = nI nn := e1.2.2.2.2.2.2.trans hN
    refine je_iload (pc := 64) d12103_64 rfl ?_
    refine je_iflt (pc := 66) 126 d12103_66 (by decide) (fun c66 => ?_) (fun c66 => absurd c66 (fun q => q (by rw [Nat.sub_self]; decide)))
    refine je_iload (pc := 126) d12103_126 rfl ?_
    refine je_iconst (pc := 128) (v := 1) d12103_128 rfl ?_
    refine je_icne (pc := 129) 137 d12103_129 (by decide) (fun c129 => ?_) (fun c129 => ?_)
    · refine je_iload (pc := 137) d12103_137 rfl ?_
      refine je_iconst (pc := 139) (v := -1) d12103_139 rfl ?_
      refine je_icne (pc := 140) 147 d12103_140 (by decide) (fun c140 => ?_) (fun c140 => ?_)
      · refine je_aload0 (pc := 147) d12103_147 rfl ?_
        refine ju_getr (pc := 148) (b := 254) d12103_148 jF_12_9 rfl (sK253 H1) (sR253_1 H1) ?_
        refine je_iconst (pc := 151) (v := 5) d12103_151 rfl ?_
        refine ju_iald (pc := 152) (jn := 5) d12103_152 (sK254 H1) (by first | assumption | exact jx_ok_dec (by decide)) (by decide) ?_
        refine ju_eqi (v := nI nn) e5 ?_
        refine je_iload (pc := 153) d12103_153 rfl ?_
        refine je_iadd (pc := 155) d12103_155 ?_
        refine je_iret (pc := 156) d12103_156 rfl ?_
        obtain ⟨ro, rM⟩ := hCR
        obtain ⟨so, sM⟩ := e3
        have xb : ∀ b, xx.1 = some b → b < n := fun b hb => by rw [so] at hb; cases hb
        rw [show o = xx.1 from ro.trans so.symm, show M = xx.2.1 from rM.trans sM.symm]
        have u0 : u = 0 := u_01 hu c129
        refine ⟨?_, e1, e2⟩
        rw [if_pos u0]
        match xx, c140 with
        | (some b, M, x8), _ => exact congrArg (fun x => some (Value.int x)) (nI_add nn b)
        | (none, M, x8), c => exact absurd rfl c
      · refine je_iconst (pc := 143) (v := -1) d12103_143 rfl ?_
        refine je_goto (pc := 144) 156 d12103_144 (by decide) ?_
        refine je_iret (pc := 156) d12103_156 rfl ?_
        obtain ⟨ro, rM⟩ := hCR
        obtain ⟨so, sM⟩ := e3
        have xb : ∀ b, xx.1 = some b → b < n := fun b hb => by rw [so] at hb; cases hb
        rw [show o = xx.1 from ro.trans so.symm, show M = xx.2.1 from rM.trans sM.symm]
        have u0 : u = 0 := u_01 hu c129
        refine ⟨?_, e1, e2⟩
        rw [if_pos u0]
        match xx, c140, xb with
        | (none, M, x8), _, _ => rfl
        | (some b, M, x8), c, xb => exact absurd c (fun q => nI_pos (n := b) (by have := xb b rfl; omega) (show nI b < 0 by rw [show nI b = -1 from q]; decide))
    · refine je_iload (pc := 132) d12103_132 rfl ?_
      refine je_goto (pc := 134) 156 d12103_134 (by decide) ?_
      refine je_iret (pc := 156) d12103_156 rfl ?_
      obtain ⟨ro, rM⟩ := hCR
      obtain ⟨so, sM⟩ := e3
      have xb : ∀ b, xx.1 = some b → b < n := fun b hb => by rw [so] at hb; cases hb
      rw [show o = xx.1 from ro.trans so.symm, show M = xx.2.1 from rM.trans sM.symm]
      exact ⟨by rw [if_neg (by rw [c129]; decide)], e1, e2⟩
set_option maxHeartbeats 8000000 in
theorem t_Mo_crust (d : Nat) {bc bs : Nat} {h : jx_H} {S : MS} {R : Option MR} {L : ML} {nn : Nat} (H : jx_St h) (C : mLaw h S R) (wS : wfS S) (h0 : 0 < S.1.1) (hmi : S.1.1 ≤ 10) (hL : mLa h.2.1 L) (hN : L.2.2.2.2.2 = nI nn) {v m n M : Nat} {o : Option Nat} (u : Int32) (hv : v < S.1.2.1) (hm : m < S.1.1) (h1n : 1 ≤ n) (hn : n ≤ 60) (hnn : nn + n < 998) (hu : ¬ u < 0 ∧ ¬ 1 < u) (hb : ¬ bkd L.2.2.2.2.1 (nI m)) (hCR : CR (crT S R v m n L) n (hmN S R v L n) 0 o M) : jx_Tr (d + 9) bc bs 12103 [.ref 253, .int (nI m), .int (nI v), .int (nI n), .int u] h (fun r h' => r = some (.int (if u = 0 then ovN nn o else nI M)) ∧ mLk h h' L ∧ ∀ j, j < 9 → h'.2.1 254 j = h.2.1 254 j) := by
  refine jx_tr jM_Mo_crust rfl rfl (lv := [some (.ref 253), some (.int (nI m)), some (.int (nI v)), some (.int (nI n)), some (.int u), none, none, none, none]) rfl ?_
  have w8 := wS.2.1
  have hon := hoF_le S R v m (-1) L n
  refine je_aload0 (pc := 0) d12103_0 rfl ?_
  refine je_iload1 (pc := 1) d12103_1 rfl ?_
  refine ju_callv (pc := 2) (as := [_]) d12103_2 jL_12_178 jM_Mo_isMile rfl (by decide) (sK253 H) rfl (by exact Nat.le_of_ble_eq_true rfl) (t_Mo_isMile (d + 6) H _ C.1.1.1 (by omega)) (fun r2 h2 q2 => ?_)
  obtain ⟨rfl, e2⟩ := q2
  obtain rfl := e2.symm
  refine jb_ifeq (pc := 5) 39 d12103_5 (by decide) (fun c5 => absurd c5 (fun q => q (isM_nI hm (by omega)))) (fun c5 => ?_)
  refine je_aload0 (pc := 8) d12103_8 rfl ?_
  refine je_iload2 (pc := 9) d12103_9 rfl ?_
  refine ju_callv (pc := 10) (as := [_]) d12103_10 jL_12_397 jM_Mo_isVillage rfl (by decide) (sK253 H) rfl (by exact Nat.le_of_ble_eq_true rfl) (t_Mo_isVillage (d + 6) H _ C.1.1.2.2.1 (by omega)) (fun r10 h10 q10 => ?_)
  obtain ⟨rfl, e10⟩ := q10
  obtain rfl := e10.symm
  refine jb_ifeq (pc := 13) 39 d12103_13 (by decide) (fun c13 => absurd c13 (fun q => q (isM_nI hv (by omega)))) (fun c13 => ?_)
  refine je_iload3 (pc := 16) d12103_16 rfl ?_
  refine je_i2l (pc := 17) d12103_17 ?_
  refine je_lconst1 (pc := 18) d12103_18 ?_
  refine je_ldc2 (pc := 19) d12103_19 jK_12_543 ?_
  refine ju_calls (pc := 22) (as := [_, _, _]) d12103_22 jL_12_170 jM_Mo_in rfl rfl (by exact Nat.le_of_ble_eq_true rfl) (t_Mo_in (d + 7) _ _ _) (fun r22 h22 q22 => ?_)
  obtain ⟨rfl, e22⟩ := q22
  obtain rfl := e22.symm
  refine ju_eqi (v := b2 (¬ nI n < 1 ∧ ¬ 60 < nI n)) (in_1 (nI n) (n := 60) (by decide)) ?_
  refine jb_ifeq (pc := 25) 39 d12103_25 (by decide) (fun c25 => absurd c25 (fun q => q ⟨nI_nlt (b := 1) h1n (by omega), nI_nlt (a := 60) (b := n) hn (by decide)⟩)) (fun c25 => ?_)
  refine je_iload (pc := 28) d12103_28 rfl ?_
  refine je_i2l (pc := 30) d12103_30 ?_
  refine je_lconst0 (pc := 31) d12103_31 ?_
  refine je_lconst1 (pc := 32) d12103_32 ?_
  refine ju_calls (pc := 33) (as := [_, _, _]) d12103_33 jL_12_170 jM_Mo_in rfl rfl (by exact Nat.le_of_ble_eq_true rfl) (t_Mo_in (d + 7) _ _ _) (fun r33 h33 q33 => ?_)
  obtain ⟨rfl, e33⟩ := q33
  obtain rfl := e33.symm
  refine ju_eqi (v := b2 (¬ u < 0 ∧ ¬ 1 < u)) (in_0 u (n := 1) (by decide)) ?_
  refine jb_ifne (pc := 36) 42 d12103_36 (by decide) (fun c36 => ?_) (fun c36 => absurd c36 (fun q => absurd hu q))
  refine je_aload0 (pc := 42) d12103_42 rfl ?_
  refine ju_callv (pc := 43) (as := []) d12103_43 jL_12_482 jM_Mo_keepsAll rfl (by decide) (sK253 H) rfl (by exact Nat.le_of_ble_eq_true rfl) (t_Mo_keepsAll (d + 5) H hL) (fun r43 h43 q43 => ?_)
  obtain ⟨rfl, k1, k2⟩ := q43
  have H1 := k1.St H
  have C1 := k1.law C
  refine je_iconst (pc := 46) (v := -1) d12103_46 rfl ?_
  refine ju_istore (pc := 47) (lv' := [some _, some _, some _, some _, some _, some _, none, none, none]) d12103_47 rfl rfl ?_
  refine je_aload0 (pc := 49) d12103_49 rfl ?_
  refine je_iload1 (pc := 50) d12103_50 rfl ?_
  refine je_iload2 (pc := 51) d12103_51 rfl ?_
  refine je_iload3 (pc := 52) d12103_52 rfl ?_
  refine je_iconst (pc := 53) (v := -1) d12103_53 rfl ?_
  refine ju_callv (pc := 54) (as := [_, _, _, _]) d12103_54 jL_12_545 jM_Mo_ownNights rfl (by decide) (sK253 H1) rfl (by exact Nat.le_of_ble_eq_true rfl) (t_Mo_ownNights d (we := -1) H C wS h0 hmi hL hN k1 hv (by omega) hn hnn) (fun r54 h54 q54 => ?_)
  obtain ⟨rfl, k54, l54⟩ := q54
  have H54_ := k54.St H
  refine ju_istore (pc := 57) (lv' := [some _, some _, some _, some _, some _, some _, some _, none, none]) d12103_57 rfl rfl ?_
  refine je_iload3 (pc := 59) d12103_59 rfl ?_
  refine je_iconst (pc := 60) (v := 1) d12103_60 rfl ?_
  refine je_isub (pc := 61) d12103_61 ?_
  refine ju_istore (pc := 62) (lv' := [some _, some _, some _, some _, some _, some _, some _, some _, none]) d12103_62 rfl rfl ?_
  refine je_loop (σ := Option Nat × Nat × Option Value) (n) (fun k xx => [some (.ref 253), some (.int (nI m)), some (.int (nI v)), some (.int (nI n)), some (.int u), some (.int (ovM xx.1)), some (.int (nI xx.2.1)), some (.int (nI (n - k) - 1)), xx.2.2]) (fun k xx h' => mLk h h' L ∧ (∀ j, j < 9 → h'.2.1 254 j = h.2.1 254 j) ∧ CR (crT S R v m n L) n (hmN S R v L n) (n - k) xx.1 xx.2.1) (fun k xx h' hk e kk => ?_) (fun xx h' e => ?_) (0) (none, _, none) h54 (by omega) ⟨k54, l54, by rw [Nat.sub_zero]; exact Or.inl ⟨rfl, ho_N (by omega), fun k h1 h2 => by omega⟩⟩
  · obtain ⟨e1, e2, e3⟩ := e
    have H1 := e1.St H
    have eb : h'.2.1 254 4 = L.2.2.2.2.1 := e1.2.2.2.2.2.1
    have e5 : h'.2.1 254 5 = nI nn := e1.2.2.2.2.2.2.trans hN
    have ek : nI (n - k) - 1 = nI (n - k - 1) := by
      have := pk_sub (a := n - k) (b := 1) (by omega)
      exact this
    rw [ek]
    refine je_iload (pc := 64) d12103_64 rfl ?_
    refine jn_iflt (pc := 66) (a := (n - k - 1)) 126 d12103_66 (by decide) (by omega) (fun c66 => by exfalso; omega) (fun c66 => ?_)
    refine je_aload0 (pc := 69) d12103_69 rfl ?_
    refine je_iload1 (pc := 70) d12103_70 rfl ?_
    refine ju_callv (pc := 71) (as := [_]) d12103_71 jL_12_182 jM_Mo_isBaked rfl (by decide) (sK253 H1) rfl (by exact Nat.le_of_ble_eq_true rfl) (t_Mo_isBaked (d + 6) H1 _) (fun r71 h71 q71 => ?_)
    obtain ⟨rfl, e71⟩ := q71
    obtain rfl := e71.symm
    refine jb_ifne (pc := 74) 126 d12103_74 (by decide) (fun c74 => absurd c74 (by rw [eb]; exact hb)) (fun c74 => ?_)
    refine je_aload0 (pc := 77) d12103_77 rfl ?_
    refine je_iload1 (pc := 78) d12103_78 rfl ?_
    refine je_iload2 (pc := 79) d12103_79 rfl ?_
    refine je_iload3 (pc := 80) d12103_80 rfl ?_
    refine je_iload (pc := 81) d12103_81 rfl ?_
    refine ju_callv (pc := 83) (as := [_, _, _, _]) d12103_83 jL_12_545 jM_Mo_ownNights rfl (by decide) (sK253 H1) rfl (by exact Nat.le_of_ble_eq_true rfl) (t_Mo_ownNights d (we := nI (n - k - 1)) H C wS h0 hmi hL hN e1 hv (by omega) hn hnn) (fun r83 h83 q83 => ?_)
    obtain ⟨rfl, k83, l83⟩ := q83
    have H83_ := k83.St H
    have tk := crT_le (S := S) (R := R) (v := v) (m := m) (n := n) (L := L) (k := n - k - 1) (by omega)
    rw [ho_T (by omega) (by omega)]
    have e4 := e3
    rw [show n - k = (n - k - 1) + 1 by omega] at e4
    obtain ⟨g1, g2⟩ := e4.go (by omega)
    have xM : xx.2.1 ≤ n := by
      rcases e3 with ⟨-, z, -⟩ | ⟨b, -, -, y, z, -⟩
      · rw [z]; exact hmN_le S R v L n
      · rw [z]; exact crT_le (by omega)
    refine ju_eqi (v := nI (crT S R v m n L (n - k - 1))) rfl ?_
    refine ju_istore (pc := 86) (lv' := [some _, some _, some _, some _, some _, some _, some _, some _, some _]) d12103_86 rfl rfl ?_
    refine je_iload (pc := 88) d12103_88 rfl ?_
    refine je_iload (pc := 90) d12103_90 rfl ?_
    refine jn_icle (pc := 92) (a := (crT S R v m n L (n - k - 1))) (b := (xx.2.1)) 100 d12103_92 (by decide) (by omega) (by omega) (fun c92 => ?_) (fun c92 => ?_)
    · refine je_iload (pc := 100) d12103_100 rfl ?_
      refine ju_istore (pc := 102) (lv' := [some _, some _, some _, some _, some _, some _, some _, some _, some _]) d12103_102 rfl rfl ?_
      refine je_iload (pc := 104) d12103_104 rfl ?_
      refine je_iload (pc := 106) d12103_106 rfl ?_
      refine jn_icle (pc := 108) (a := (crT S R v m n L (n - k - 1))) (b := (xx.2.1)) 116 d12103_108 (by decide) (by omega) (by omega) (fun c108 => ?_) (fun c108 => ?_)
      · refine je_iload (pc := 116) d12103_116 rfl ?_
        refine ju_istore (pc := 118) (lv' := [some _, some _, some _, some _, some _, some _, some _, some _, some _]) d12103_118 rfl rfl ?_
        refine ju_inc (pc := 120) (y := -1) (lv' := [some _, some _, some _, some _, some _, some _, some _, some _, some _]) d12103_120 rfl rfl rfl ?_
        refine je_goto (pc := 123) 64 d12103_123 (by decide) ?_
        rw [xm1, show n - k - 1 = n - (k + 1) by omega]
        exact kk (xx.1, xx.2.1, some _) _ ⟨k83, l83, by rw [show n - (k + 1) = n - k - 1 by omega]; exact g1 c92⟩
      · refine je_iload (pc := 111) d12103_111 rfl ?_
        refine je_goto (pc := 113) 118 d12103_113 (by decide) ?_
        refine ju_istore (pc := 118) (lv' := [some _, some _, some _, some _, some _, some _, some _, some _, some _]) d12103_118 rfl rfl ?_
        refine ju_inc (pc := 120) (y := -1) (lv' := [some _, some _, some _, some _, some _, some _, some _, some _, some _]) d12103_120 rfl rfl rfl ?_
        refine je_goto (pc := 123) 64 d12103_123 (by decide) ?_
        exfalso; omega
    · refine je_iload (pc := 95) d12103_95 rfl ?_
      refine je_goto (pc := 97) 102 d12103_97 (by decide) ?_
      refine ju_istore (pc := 102) (lv' := [some _, some _, some _, some _, some _, some _, some _, some _, some _]) d12103_102 rfl rfl ?_
      refine je_iload (pc := 104) d12103_104 rfl ?_
      refine je_iload (pc := 106) d12103_106 rfl ?_
      refine jn_icle (pc := 108) (a := (crT S R v m n L (n - k - 1))) (b := (xx.2.1)) 116 d12103_108 (by decide) (by omega) (by omega) (fun c108 => ?_) (fun c108 => ?_)
      · refine je_iload (pc := 116) d12103_116 rfl ?_
        refine ju_istore (pc := 118) (lv' := [some _, some _, some _, some _, some _, some _, some _, some _, some _]) d12103_118 rfl rfl ?_
        refine ju_inc (pc := 120) (y := -1) (lv' := [some _, some _, some _, some _, some _, some _, some _, some _, some _]) d12103_120 rfl rfl rfl ?_
        refine je_goto (pc := 123) 64 d12103_123 (by decide) ?_
        exfalso; omega
      · refine je_iload (pc := 111) d12103_111 rfl ?_
        refine je_goto (pc := 113) 118 d12103_113 (by decide) ?_
        refine ju_istore (pc := 118) (lv' := [some _, some _, some _, some _, some _, some _, some _, some _, some _]) d12103_118 rfl rfl ?_
        refine ju_inc (pc := 120) (y := -1) (lv' := [some _, some _, some _, some _, some _, some _, some _, some _, some _]) d12103_120 rfl rfl rfl ?_
        refine je_goto (pc := 123) 64 d12103_123 (by decide) ?_
        rw [xm1, show n - k - 1 = n - (k + 1) by omega]
        exact kk (some (n - (k + 1)), crT S R v m n L (n - (k + 1)), some _) _ ⟨k83, l83, by rw [show n - (k + 1) = n - k - 1 by omega]; exact g2 c92⟩
  · obtain ⟨e1, e2, e3⟩ := e
    have H1 := e1.St H
    have eb : h'.2.1 254 4 = L.2.2.2.2.1 := e1.2.2.2.2.2.1
    have e5 : h'.2.1 254 5 = nI nn := e1.2.2.2.2.2.2.trans hN
    refine je_iload (pc := 64) d12103_64 rfl ?_
    refine je_iflt (pc := 66) 126 d12103_66 (by decide) (fun c66 => ?_) (fun c66 => absurd c66 (fun q => q (by rw [Nat.sub_self]; decide)))
    refine je_iload (pc := 126) d12103_126 rfl ?_
    refine je_iconst (pc := 128) (v := 1) d12103_128 rfl ?_
    refine je_icne (pc := 129) 137 d12103_129 (by decide) (fun c129 => ?_) (fun c129 => ?_)
    · refine je_iload (pc := 137) d12103_137 rfl ?_
      refine je_iconst (pc := 139) (v := -1) d12103_139 rfl ?_
      refine je_icne (pc := 140) 147 d12103_140 (by decide) (fun c140 => ?_) (fun c140 => ?_)
      · refine je_aload0 (pc := 147) d12103_147 rfl ?_
        refine ju_getr (pc := 148) (b := 254) d12103_148 jF_12_9 rfl (sK253 H1) (sR253_1 H1) ?_
        refine je_iconst (pc := 151) (v := 5) d12103_151 rfl ?_
        refine ju_iald (pc := 152) (jn := 5) d12103_152 (sK254 H1) (by first | assumption | exact jx_ok_dec (by decide)) (by decide) ?_
        refine ju_eqi (v := nI nn) e5 ?_
        refine je_iload (pc := 153) d12103_153 rfl ?_
        refine je_iadd (pc := 155) d12103_155 ?_
        refine je_iret (pc := 156) d12103_156 rfl ?_
        have xb : ∀ b, xx.1 = some b → b < n := fun b hb => by
          rcases e3 with ⟨z, -⟩ | ⟨y, z, -, y2, -⟩
          · rw [z] at hb; cases hb
          · rw [z] at hb; cases hb; exact y2
        obtain ⟨ro, rM⟩ := CR.u hCR (by rw [Nat.sub_self] at e3; exact e3)
        subst ro
        subst rM
        have u0 : u = 0 := u_01 hu c129
        refine ⟨?_, e1, e2⟩
        rw [if_pos u0]
        match xx, c140 with
        | (some b, M, x8), _ => exact congrArg (fun x => some (Value.int x)) (nI_add nn b)
        | (none, M, x8), c => exact absurd rfl c
      · refine je_iconst (pc := 143) (v := -1) d12103_143 rfl ?_
        refine je_goto (pc := 144) 156 d12103_144 (by decide) ?_
        refine je_iret (pc := 156) d12103_156 rfl ?_
        have xb : ∀ b, xx.1 = some b → b < n := fun b hb => by
          rcases e3 with ⟨z, -⟩ | ⟨y, z, -, y2, -⟩
          · rw [z] at hb; cases hb
          · rw [z] at hb; cases hb; exact y2
        obtain ⟨ro, rM⟩ := CR.u hCR (by rw [Nat.sub_self] at e3; exact e3)
        subst ro
        subst rM
        have u0 : u = 0 := u_01 hu c129
        refine ⟨?_, e1, e2⟩
        rw [if_pos u0]
        match xx, c140, xb with
        | (none, M, x8), _, _ => rfl
        | (some b, M, x8), c, xb => exact absurd c (fun q => nI_pos (n := b) (by have := xb b rfl; omega) (show nI b < 0 by rw [show nI b = -1 from q]; decide))
    · refine je_iload (pc := 132) d12103_132 rfl ?_
      refine je_goto (pc := 134) 156 d12103_134 (by decide) ?_
      refine je_iret (pc := 156) d12103_156 rfl ?_
      have xb : ∀ b, xx.1 = some b → b < n := fun b hb => by
        rcases e3 with ⟨z, -⟩ | ⟨y, z, -, y2, -⟩
        · rw [z] at hb; cases hb
        · rw [z] at hb; cases hb; exact y2
      obtain ⟨ro, rM⟩ := CR.u hCR (by rw [Nat.sub_self] at e3; exact e3)
      subst ro
      subst rM
      exact ⟨by rw [if_neg (by rw [c129]; decide)], e1, e2⟩
theorem op_crust (x y z u : Int32) : jo Inv 33 12103 [.int x, .int y, .int z, .int u] := jo_look (fun n h t nr rs X Y hn q => by
  obtain ⟨s, r1, r2, r3, r4, -⟩ := q.cl
  obtain ⟨b1, b2, -⟩ := q.mi
  obtain ⟨-, -, -, -, ⟨-, rl, -⟩, -, ⟨wS, wl, -⟩, -⟩ := id q
  by_cases G : isM x X.1.1.1 ∧ isM y X.1.1.2.1 ∧ (¬ z < 1 ∧ ¬ 60 < z) ∧ (¬ u < 0 ∧ ¬ 1 < u)
  · obtain ⟨G1, G2, ⟨G3, G4⟩, G5⟩ := G
    obtain ⟨j, hj, rfl⟩ := isM_of G1 (by omega)
    obtain ⟨v, hv, rfl⟩ := isM_of G2 (by omega)
    obtain ⟨k, hk, rfl⟩ := z_of (x := z) (n := 60) ⟨fun c => G3 (Int32.lt_trans c (by decide)), G4⟩ (by decide)
    have hk1 : 1 ≤ k := Nat.le_of_not_lt (fun c => G3 (nI_lt (b := 1) c (by decide)))
    obtain ⟨R, C1, C2⟩ := q.law (by omega)
    obtain ⟨-, -, -, N, hN, eN⟩ := id wl
    obtain ⟨o, M, hCR⟩ : ∃ o M, (if bkd X.2.1.2.2.2.2.1 (nI j) then o = none ∧ M = hmN X.1 R v X.2.1 k else CR (crT X.1 R v j k X.2.1) k (hmN X.1 R v X.2.1 k) 0 o M) := by
      by_cases c : bkd X.2.1.2.2.2.2.1 (nI j)
      · exact ⟨none, _, by rw [if_pos c]; exact ⟨rfl, rfl⟩⟩
      · obtain ⟨o, M, e⟩ := CR.ex (crT X.1 R v j k X.2.1) k (hmN X.1 R v X.2.1 k) k (Nat.le_refl k)
        rw [Nat.sub_self] at e
        exact ⟨o, M, by rw [if_neg c]; exact e⟩
    refine ⟨if u = 0 then ovN N o else nI M, (t_Db_crust 192 q.1 C1 wS (by omega) rl eN r1 r3 r4 u hv hj b1 hk1 hk (by omega) G5 hCR).mono (fun r h1 e => ⟨e.1, e.2.mo (fun b hb => by omega)⟩), fun h1 S1 g1 m1 => ?_⟩
    by_cases c : bkd X.2.1.2.2.2.2.1 (nI j)
    · rw [if_pos c] at hCR
      exact (t_Mo_crust_b 190 S1 (C2 h1 g1) wS (by omega) b1 m1.la eN u hv hj hk1 hk (by omega) G5 c hCR).mono (fun r h2 e => ⟨e.1, e.2.1.fin e.2.2 m1⟩)
    · rw [if_neg c] at hCR
      exact (t_Mo_crust 190 S1 (C2 h1 g1) wS (by omega) b1 m1.la eN u hv hj hk1 hk (by omega) G5 c hCR).mono (fun r h2 e => ⟨e.1, e.2.1.fin e.2.2 m1⟩)
  · exact ⟨-2, (t_Db_crust_n 192 q.1 r1 r3 x y z u (by rw [r4.1.1, r4.1.2.2.1]; exact fun c => G ⟨c.1, c.2.1, ⟨c.2.2.1, c.2.2.2.1⟩, c.2.2.2.2⟩)).mono (fun r h1 e => ⟨e.1, by rw [e.2]; exact fC.rf⟩), fun h1 S1 g1 m1 => (t_Mo_crust_n 190 S1 m1.st.1.1 b1 m1.st.1.2.2.1 b2 x y z u G).mono (fun r h2 e => ⟨e.1, by rw [e.2]; exact ⟨fM.rf, m1⟩⟩)⟩)
