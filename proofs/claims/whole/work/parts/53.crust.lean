/-! crust -/
def hmB (S : MS) (v : Nat) (L : ML) : Nat := if sdM S L.1 v = S.2.1.2.2.2.1 v then 1 else 0
/-- ends of nights at which a village lies on its own side -/
def hmN (S : MS) (R : Option MR) (v : Nat) (L : ML) : Nat → Nat
  | 0 => 0
  | k + 1 => hmN S R v L k + hmB S v (nitF S R (k + 1) L)
theorem hmB_le (S : MS) (v : Nat) (L : ML) : hmB S v L ≤ 1 := by unfold hmB; split <;> omega
theorem hmN_le (S : MS) (R : Option MR) (v : Nat) (L : ML) : ∀ k, hmN S R v L k ≤ k
  | 0 => Nat.le_refl _
  | k + 1 => by have := hmN_le S R v L k; have := hmB_le S v (nitF S R (k + 1) L); rw [hmN]; omega
def orB (L : ML) (x : Int32) : ML := (L.1, L.2.1, L.2.2.1, L.2.2.2.1, L.2.2.2.2.1 ||| x, L.2.2.2.2.2)
def bakL (m : Nat) (L : ML) : ML := orB L (1 <<< (nI m &&& 31))
theorem orB_0 (L : ML) : orB L 0 = L := by unfold orB; rw [or0]
def crT (S : MS) (R : Option MR) (v m n : Nat) (L : ML) (k : Nat) : Nat := hmN S R v L k + hmN S R v (bakL m (nitF S R k L)) (n - k)
theorem crT_le {S : MS} {R : Option MR} {v m n : Nat} {L : ML} {k : Nat} (h : k ≤ n) : crT S R v m n L k ≤ n := by
  have := hmN_le S R v L k
  have := hmN_le S R v (bakL m (nitF S R k L)) (n - k)
  unfold crT
  omega
/-- the best of what lies from i on below n, the last of several; none, if H is as good -/
def CR (T : Nat → Nat) (n H i : Nat) (o : Option Nat) (M : Nat) : Prop := (o = none ∧ M = H ∧ ∀ k, i ≤ k → k < n → T k ≤ H) ∨ ∃ b, o = some b ∧ i ≤ b ∧ b < n ∧ M = T b ∧ H < M ∧ (∀ k, i ≤ k → k < n → T k ≤ M) ∧ ∀ k, b < k → k < n → T k < M
theorem CR.u {T : Nat → Nat} {n H i : Nat} {o o' : Option Nat} {M M' : Nat} (a : CR T n H i o M) (b : CR T n H i o' M') : o = o' ∧ M = M' := by
  rcases a with ⟨rfl, rfl, a⟩ | ⟨x, rfl, a1, a2, rfl, a3, a4, a5⟩ <;> rcases b with ⟨rfl, rfl, b⟩ | ⟨y, rfl, b1, b2, rfl, b3, b4, b5⟩
  · exact ⟨rfl, rfl⟩
  · have := a y b1 b2; omega
  · have := b x a1 a2; omega
  · have h1 := a4 y b1 b2
    have h2 := b4 x a1 a2
    have e : x = y := by
      rcases Nat.lt_trichotomy x y with z | z | z
      · have := a5 y z b2; omega
      · exact z
      · have := b5 x z a2; omega
    subst e
    exact ⟨rfl, rfl⟩
theorem CR.go {T : Nat → Nat} {n H i : Nat} {o : Option Nat} {M : Nat} (hi : i < n) (a : CR T n H (i + 1) o M) : (T i ≤ M → CR T n H i o M) ∧ (M < T i → CR T n H i (some i) (T i)) := by
  rcases a with ⟨rfl, rfl, a⟩ | ⟨x, rfl, a1, a2, rfl, a3, a4, a5⟩
  · refine ⟨fun z => Or.inl ⟨rfl, rfl, fun k h1 h2 => ?_⟩, fun z => Or.inr ⟨i, rfl, Nat.le_refl _, hi, rfl, z, fun k h1 h2 => ?_, fun k h1 h2 => ?_⟩⟩
    · by_cases c : k = i
      · rw [c]; exact z
      · exact a k (by omega) h2
    · by_cases c : k = i
      · rw [c]; exact Nat.le_refl _
      · have := a k (by omega) h2; omega
    · have := a k (by omega) h2; omega
  · refine ⟨fun z => Or.inr ⟨x, rfl, by omega, a2, rfl, a3, fun k h1 h2 => ?_, a5⟩, fun z => Or.inr ⟨i, rfl, Nat.le_refl _, hi, rfl, by omega, fun k h1 h2 => ?_, fun k h1 h2 => ?_⟩⟩
    · by_cases c : k = i
      · rw [c]; exact z
      · exact a4 k (by omega) h2
    · by_cases c : k = i
      · rw [c]; exact Nat.le_refl _
      · have := a4 k (by omega) h2; omega
    · have := a4 k (by omega) h2; omega
theorem CR.ex (T : Nat → Nat) (n H : Nat) : ∀ c, c ≤ n → ∃ o M, CR T n H (n - c) o M
  | 0, _ => ⟨none, H, Or.inl ⟨rfl, rfl, fun k h1 h2 => by omega⟩⟩
  | c + 1, h => by
    obtain ⟨o, M, q⟩ := CR.ex T n H c (by omega)
    rw [show n - c = (n - (c + 1)) + 1 by omega] at q
    obtain ⟨q1, q2⟩ := q.go (by omega)
    by_cases z : T (n - (c + 1)) ≤ M
    · exact ⟨o, M, q1 z⟩
    · exact ⟨_, _, q2 (by omega)⟩
def AM (T : Nat → Nat) (c b : Nat) : Prop := b < c ∧ (∀ k, k < c → T k ≤ T b) ∧ ∀ k, b < k → k < c → T k < T b
def ovN (nn : Nat) : Option Nat → Int32
  | none => -1
  | some b => nI (nn + b)
set_option maxHeartbeats 2000000 in
theorem t_Ol_isHome (d : Nat) {bc bs : Nat} {h : jx_H} {s a v m : Nat} {S : MS} {l : Nat → Int32} (H : jx_St h) (hs : h.2.2.2 51 0 = some s) (P : jx_Sp h s) (A : jx_La h a) (hS : rS h.2.1 s S) (hv : v < S.1.2.1) (hv8 : S.1.2.1 ≤ 8) (hm : m < 10) (em : S.2.1.2.1 v = nI m) (hl : ∀ m, m < 10 → h.2.1 (a + 1) m = l m) : jx_Tr (d + 2) bc bs 9005 [.ref 67, .ref a, .int (nI v)] h (fun r h' => r = some (.int (b2 (sdM S l v = S.2.1.2.2.2.1 v))) ∧ h' = h) := by
  refine jx_tr jM_Ol_isHome rfl rfl (lv := [some (.ref 67), some (.ref a), some (.int (nI v))]) rfl ?_
  obtain ⟨q1, q2, q3⟩ := hS.2.2.1 v hv
  refine je_aload0 (pc := 0) d9005_0 rfl ?_
  refine ju_getr (pc := 1) (b := 51) d9005_1 jF_9_25 rfl (sK67 H) (sR67_0 H) ?_
  refine ju_getr (pc := 4) (b := s) d9005_4 jF_9_64 rfl (sK51 H) hs ?_
  refine je_aload1 (pc := 7) d9005_7 rfl ?_
  refine je_iload2 (pc := 8) d9005_8 rfl ?_
  refine ju_callv (pc := 9) (as := [_, _]) d9005_9 jL_9_68 jM_St_sideOf rfl (by decide) P.1.1 rfl (by exact Nat.le_of_ble_eq_true rfl) (t_St_sideOf d (m := m) P A (by omega) hm (q1.trans em)) (fun r9 h9 q9 => ?_)
  obtain ⟨rfl, e9⟩ := q9
  obtain rfl := e9.symm
  refine ju_eqi (v := sdM S l v) (by unfold sdM vM vP; rw [em, nI_clamp (by omega), hl m hm, q2]) ?_
  refine je_aload0 (pc := 12) d9005_12 rfl ?_
  refine ju_getr (pc := 13) (b := 51) d9005_13 jF_9_25 rfl (sK67 H) (sR67_0 H) ?_
  refine ju_getr (pc := 16) (b := s) d9005_16 jF_9_64 rfl (sK51 H) hs ?_
  refine ju_getr (pc := 19) (b := (s + 4)) d9005_19 jF_9_73 rfl P.1.1 P.1.2.2.2.2.1.2 ?_
  refine je_iload2 (pc := 22) d9005_22 rfl ?_
  refine ju_iald (pc := 23) (jn := (v)) d9005_23 P.1.2.2.2.2.1.1 (vp_in_nI (by omega) (by decide)) (nI_clamp (by omega)) ?_
  refine ju_eqi (v := S.2.1.2.2.2.1 v) q3 ?_
  refine ju_tern2 (pc := 24) (V := b2 (sdM S l v = S.2.1.2.2.2.1 v)) 32 ?_ (fun jn24 => ?_)
  · refine je_zret (pc := 32) d9005_32 rfl (b2_01 _) ?_
    exact ⟨rfl, rfl⟩
  · refine je_icne (pc := 24) 31 d9005_24 (by decide) (fun c24 => ?_) (fun c24 => ?_)
    · refine je_iconst (pc := 31) (v := 0) d9005_31 rfl ?_
      refine ju_eqi (v := b2 (sdM S l v = S.2.1.2.2.2.1 v)) (b2_f c24).symm ?_
      exact jn24
    · refine je_iconst (pc := 27) (v := 1) d9005_27 rfl ?_
      refine je_goto (pc := 28) 32 d9005_28 (by decide) ?_
      refine ju_eqi (v := b2 (sdM S l v = S.2.1.2.2.2.1 v)) (b2_t c24).symm ?_
      exact jn24
theorem ol_home (d : Nat) {bc bs : Nat} {h : jx_H} {a v : Nat} {S : MS} {R : Option MR} {l : Nat → Int32} (H : jx_St h) (C : cLaw h S R) (wS : wfS S) (A : jx_La h a) (hv : v < S.1.2.1) (hl : ∀ m, m < 10 → h.2.1 (a + 1) m = l m) : jx_Tr (d + 2) bc bs 9005 [.ref 67, .ref a, .int (nI v)] h (fun r h' => r = some (.int (b2 (sdM S l v = S.2.1.2.2.2.1 v))) ∧ h' = h) := by
  obtain ⟨s, c1, -, c3, c4, -⟩ := C
  obtain ⟨⟨m, hm, em⟩, -, -⟩ := wS.2.2.2.2.2.1 v hv
  exact t_Ol_isHome d H c1 c3 A c4 hv wS.2.1 (by rcases wS.1 with z | z <;> omega) em hl
set_option maxHeartbeats 2000000 in
theorem t_Ol_nightsHome (d : Nat) {bc bs : Nat} {h : jx_H} {S : MS} {R : Option MR} {L : ML} {nn : Nat} (H : jx_St h) (C : cLaw h S R) (wS : wfS S) (h0 : 0 < S.1.1) (hL : rL h.2.1 68 L) (hN : L.2.2.2.2.2 = nI nn) {v m n : Nat} (hv : v < S.1.2.1) (hm : m < 10) (hn : n ≤ 60) (hnn : nn + n < 998) : jx_Tr (d + 5) bc bs 9004 [.ref 67, .int (nI m), .int (nI v), .int (nI n)] h (fun r h' => r = some (.int (nI (hmN S R v (bakL m L) n))) ∧ fC (fun b => b = 65 ∨ 73 ≤ b ∧ b ≤ 77) h h') := by
  refine jx_tr jM_Ol_nightsHome rfl rfl (lv := [some (.ref 67), some (.int (nI m)), some (.int (nI v)), some (.int (nI n)), none, none]) rfl ?_
  refine je_aload0 (pc := 0) d9004_0 rfl ?_
  refine ju_getr (pc := 1) (b := 73) d9004_1 jF_9_18 rfl (sK67 H) (sR67_2 H) ?_
  refine je_aload0 (pc := 4) d9004_4 rfl ?_
  refine ju_getr (pc := 5) (b := 68) d9004_5 jF_9_12 rfl (sK67 H) (sR67_1 H) ?_
  refine ju_callv (pc := 8) (as := [_]) d9004_8 jL_9_29 jM_La_copyFrom rfl (by decide) (sK73 H) rfl (by exact Nat.le_of_ble_eq_true rfl) (t_La_copyFrom (d + 2) (a := 73) (b := 68) (sL73 H) (sL68 H) (by decide)) (fun r8 h8 q8 => ?_)
  obtain ⟨rfl, f1, f2⟩ := q8
  have H0 := f1.St H
  have L0 := f2 L hL
  refine je_aload0 (pc := 11) d9004_11 rfl ?_
  refine ju_getr (pc := 12) (b := 73) d9004_12 jF_9_18 rfl (sK67 H0) (sR67_2 H0) ?_
  refine je_dup (pc := 15) d9004_15 rfl ?_
  refine ju_geti (pc := 16) d9004_16 jF_9_61 rfl (sK73 H0) ?_
  refine ju_eqi (v := L.2.2.2.2.1) L0.2.2.2.2.1 ?_
  refine je_iconst (pc := 19) (v := 1) d9004_19 rfl ?_
  refine je_iload1 (pc := 20) d9004_20 rfl ?_
  refine je_ishl (pc := 21) d9004_21 ?_
  refine je_ior (pc := 22) d9004_22 ?_
  refine ju_puti (pc := 23) d9004_23 jF_9_61 rfl (sK73 H0) ?_
  refine je_iconst (pc := 26) (v := 0) d9004_26 rfl ?_
  refine ju_istore (pc := 27) (lv' := [some _, some _, some _, some _, some _, none]) d9004_27 rfl rfl ?_
  refine je_iconst (pc := 29) (v := 0) d9004_29 rfl ?_
  refine ju_istore (pc := 30) (lv' := [some _, some _, some _, some _, some _, some _]) d9004_30 rfl rfl ?_
  refine je_loop (σ := Unit) (n) (fun k xx => [some (.ref 67), some (.int (nI m)), some (.int (nI v)), some (.int (nI n)), some (.int (nI (hmN S R v (bakL m L) k))), some (.int (nI k))]) (fun k _ h' => fC (fun b => b = 65 ∨ 73 ≤ b ∧ b ≤ 77) h h' ∧ rL h'.2.1 73 (nitF S R k (bakL m L))) (fun k xx h' hk e kk => ?_) (fun xx h' e => ?_) (0) () _ (by omega) ⟨(f1.mo (fun b hb => by omega)).wI (by omega), L0.wb⟩
  · obtain ⟨e1, e2⟩ := e
    have H1 := e1.St H
    have C1 := C.fr e1 (fun b hb => olA (by omega))
    refine je_iload (pc := 32) d9004_32 rfl ?_
    refine je_iload3 (pc := 34) d9004_34 rfl ?_
    have hmk := hmN_le S R v (bakL m L) k
    refine jn_icge (pc := 35) (a := (k)) (b := (n)) 79 d9004_35 (by decide) (by omega) (by omega) (fun c35 => by exfalso; omega) (fun c35 => ?_)
    refine je_aload0 (pc := 38) d9004_38 rfl ?_
    refine ju_getr (pc := 39) (b := 51) d9004_39 jF_9_25 rfl (sK67 H1) (sR67_0 H1) ?_
    refine je_aload0 (pc := 42) d9004_42 rfl ?_
    refine ju_getr (pc := 43) (b := 73) d9004_43 jF_9_18 rfl (sK67 H1) (sR67_2 H1) ?_
    refine je_iconst (pc := 46) (v := -1) d9004_46 rfl ?_
    refine ju_callv (pc := 47) (as := [_, _]) d9004_47 jL_9_35 jM_Lw_pass rfl (by decide) (sK51 H1) rfl (by exact Nat.le_of_ble_eq_true rfl) (t_Lw_pass (d + 0) (a := 73) H1 C1 wS h0 (Or.inr (Or.inr (Or.inl rfl))) e2 (nn := nn + k) (nit_n (L := bakL m L) hN k) (by omega) (-1) _ rfl) (fun r47 h47 q47 => ?_)
    obtain ⟨rfl, f3, f4⟩ := q47
    rw [if_pos rfl] at f4
    have H2 := f3.St H1
    have C2 := C1.fr f3 (fun b hb => olA (by omega))
    refine je_pop (pc := 50) d9004_50 rfl ?_
    refine je_iload (pc := 51) d9004_51 rfl ?_
    refine je_aload0 (pc := 53) d9004_53 rfl ?_
    refine je_aload0 (pc := 54) d9004_54 rfl ?_
    refine ju_getr (pc := 55) (b := 73) d9004_55 jF_9_18 rfl (sK67 H2) (sR67_2 H2) ?_
    refine je_iload2 (pc := 58) d9004_58 rfl ?_
    refine ju_callv (pc := 59) (as := [_, _]) d9004_59 jL_9_57 jM_Ol_isHome rfl (by decide) (sK67 H2) rfl (by exact Nat.le_of_ble_eq_true rfl) (ol_home (d + 2) (a := 73) (l := (nitF S R (k + 1) (bakL m L)).1) H2 C2 wS (sL73 H2) hv f4.1) (fun r59 h59 q59 => ?_)
    obtain ⟨rfl, e59⟩ := q59
    obtain rfl := e59.symm
    refine ju_tern1 (pc := 62) (V := nI (if sdM S ((nitF S R (k + 1) (bakL m L))).1 v = S.2.1.2.2.2.1 v then 1 else 0)) 70 ?_ (fun jn62 => ?_)
    · refine je_iadd (pc := 70) d9004_70 ?_
      refine ju_eqi (v := nI ((hmN S R v (bakL m L) k) + ((if sdM S ((nitF S R (k + 1) (bakL m L))).1 v = S.2.1.2.2.2.1 v then 1 else 0)))) (nI_add (hmN S R v (bakL m L) k) ((if sdM S ((nitF S R (k + 1) (bakL m L))).1 v = S.2.1.2.2.2.1 v then 1 else 0))) ?_
      refine ju_istore (pc := 71) (lv' := [some _, some _, some _, some _, some _, some _]) d9004_71 rfl rfl ?_
      refine ju_incN (pc := 73) (v := nI ((k) + 1)) (lv' := [some _, some _, some _, some _, some _, some _]) d9004_73 rfl (nI_1 (k)) rfl ?_
      refine je_goto (pc := 76) 32 d9004_76 (by decide) ?_
      exact kk () _ ⟨e1.tr (f3.mo (fun b hb => by omega)), f4⟩
    · refine jb_ifeq (pc := 62) 69 d9004_62 (by decide) (fun c62 => ?_) (fun c62 => ?_)
      · refine je_iconst (pc := 69) (v := 0) d9004_69 rfl ?_
        refine ju_eqi (v := nI (if sdM S ((nitF S R (k + 1) (bakL m L))).1 v = S.2.1.2.2.2.1 v then 1 else 0)) (by rw [if_neg c62]; rfl) ?_
        exact jn62
      · refine je_iconst (pc := 65) (v := 1) d9004_65 rfl ?_
        refine je_goto (pc := 66) 70 d9004_66 (by decide) ?_
        refine ju_eqi (v := nI (if sdM S ((nitF S R (k + 1) (bakL m L))).1 v = S.2.1.2.2.2.1 v then 1 else 0)) (by rw [if_pos c62]; rfl) ?_
        exact jn62
  · obtain ⟨e1, e2⟩ := e
    have H1 := e1.St H
    have C1 := C.fr e1 (fun b hb => olA (by omega))
    refine je_iload (pc := 32) d9004_32 rfl ?_
    refine je_iload3 (pc := 34) d9004_34 rfl ?_
    have hmk := hmN_le S R v (bakL m L) n
    refine jn_icge (pc := 35) (a := ((n))) (b := (n)) 79 d9004_35 (by decide) (by omega) (by omega) (fun c35 => ?_) (fun c35 => by exfalso; omega)
    refine je_iload (pc := 79) d9004_79 rfl ?_
    refine je_iret (pc := 81) d9004_81 rfl ?_
    exact ⟨rfl, e1⟩
set_option maxHeartbeats 8000000 in
theorem t_Ol_seekCrust_b (d : Nat) {bc bs : Nat} {h : jx_H} {S : MS} {R : Option MR} {L : ML} {nn : Nat} (H : jx_St h) (C : cLaw h S R) (wS : wfS S) (h0 : 0 < S.1.1) (hL : rL h.2.1 40 L) (hN : L.2.2.2.2.2 = nI nn) {v m n M : Nat} {o : Option Nat} (hv : v < S.1.2.1) (hm : m < 10) (h1n : 1 ≤ n) (hn : n ≤ 60) (hnn : nn + n < 998) (hb : bkd L.2.2.2.2.1 (nI m)) (hCR : o = none ∧ M = hmN S R v L n) : jx_Tr (d + 6) bc bs 9003 [.ref 67, .ref 40, .int (nI m), .int (nI v), .int (nI n)] h (fun r h' => r = none ∧ fC (fun b => b = 65 ∨ 67 ≤ b ∧ b ≤ 77) h h' ∧ h'.2.1 67 4 = ovN nn o ∧ h'.2.1 67 5 = nI M) := by
  refine jx_tr jM_Ol_seekCrust rfl rfl (lv := [some (.ref 67), some (.ref 40), some (.int (nI m)), some (.int (nI v)), some (.int (nI n)), none, none, none]) rfl ?_
  refine je_aload0 (pc := 0) d9003_0 rfl ?_
  refine ju_getr (pc := 1) (b := 68) d9003_1 jF_9_12 rfl (sK67 H) (sR67_1 H) ?_
  refine je_aload1 (pc := 4) d9003_4 rfl ?_
  refine ju_callv (pc := 5) (as := [_]) d9003_5 jL_9_29 jM_La_copyFrom rfl (by decide) (sK68 H) rfl (by exact Nat.le_of_ble_eq_true rfl) (t_La_copyFrom (d + 3) (a := 68) (b := 40) (sL68 H) (sL40 H) (by decide)) (fun r5 h5 q5 => ?_)
  obtain ⟨rfl, f1, f2⟩ := q5
  have H0 := f1.St H
  have L0 := f2 L hL
  refine je_aload0 (pc := 8) d9003_8 rfl ?_
  refine je_iconst (pc := 9) (v := -1) d9003_9 rfl ?_
  refine ju_puti (pc := 10) d9003_10 jF_9_43 rfl (sK67 H0) ?_
  refine je_aload0 (pc := 13) d9003_13 rfl ?_
  refine je_iconst (pc := 14) (v := -1) d9003_14 rfl ?_
  refine ju_puti (pc := 15) d9003_15 jF_9_46 rfl (sK67 H0.wI) ?_
  refine je_iconst (pc := 18) (v := 0) d9003_18 rfl ?_
  refine ju_istore (pc := 19) (lv' := [some _, some _, some _, some _, some _, some _, none, none]) d9003_19 rfl rfl ?_
  refine je_iconst (pc := 21) (v := 0) d9003_21 rfl ?_
  refine ju_istore (pc := 22) (lv' := [some _, some _, some _, some _, some _, some _, some _, none]) d9003_22 rfl rfl ?_
  refine je_loop (σ := Option Value) (n) (fun k xx => [some (.ref 67), some (.ref 40), some (.int (nI m)), some (.int (nI v)), some (.int (nI n)), some (.int (nI (hmN S R v L k))), some (.int (nI k)), xx]) (fun k _ h' => fC (fun b => b = 65 ∨ 67 ≤ b ∧ b ≤ 77) h h' ∧ rL h'.2.1 68 (nitF S R k L) ∧ (h'.2.1 67 4 = -1 ∧ h'.2.1 67 5 = -1)) (fun k xx h' hk e kk => ?_) (fun xx h' e => ?_) (0) none _ (by omega) ⟨((f1.mo (fun b hb => by omega)).wI (by omega)).wI (by omega), (L0.of (fun b h1 h2 => (wI_ne _ _ _ (by omega)).trans (wI_ne _ _ _ (by omega)))), ⟨rfl, rfl⟩⟩
  · obtain ⟨e1, e2, e3⟩ := e
    have H1 := e1.St H
    have C1 := C.fr e1 (fun b hb => olA (by omega))
    have hmk := hmN_le S R v L k
    have eb : h'.2.1 40 4 = L.2.2.2.2.1 := by rw [e1.2 40 (by omega)]; exact hL.2.2.2.2.1
    refine je_iload (pc := 24) d9003_24 rfl ?_
    refine je_iload (pc := 26) d9003_26 rfl ?_
    refine jn_icge (pc := 28) (a := (k)) (b := (n)) 122 d9003_28 (by decide) (by omega) (by omega) (fun c28 => by exfalso; omega) (fun c28 => ?_)
    refine je_aload1 (pc := 31) d9003_31 rfl ?_
    refine je_iload2 (pc := 32) d9003_32 rfl ?_
    refine ju_callv (pc := 33) (as := [_]) d9003_33 jL_9_49 jM_La_isBaked rfl (by decide) (sK40 H1) rfl (by exact Nat.le_of_ble_eq_true rfl) (t_La_isBaked (d + 4) (sL40 H1) _) (fun r33 h33 q33 => ?_)
    obtain ⟨rfl, e33⟩ := q33
    obtain rfl := e33.symm
    refine jb_ifne (pc := 36) 81 d9003_36 (by decide) (fun c36 => ?_) (fun c36 => absurd c36 (fun q => q (by rw [eb]; exact hb)))
    refine je_aload0 (pc := 81) d9003_81 rfl ?_
    refine ju_getr (pc := 82) (b := 51) d9003_82 jF_9_25 rfl (sK67 H1) (sR67_0 H1) ?_
    refine je_aload0 (pc := 85) d9003_85 rfl ?_
    refine ju_getr (pc := 86) (b := 68) d9003_86 jF_9_12 rfl (sK67 H1) (sR67_1 H1) ?_
    refine je_iconst (pc := 89) (v := -1) d9003_89 rfl ?_
    refine ju_callv (pc := 90) (as := [_, _]) d9003_90 jL_9_35 jM_Lw_pass rfl (by decide) (sK51 H1) rfl (by exact Nat.le_of_ble_eq_true rfl) (t_Lw_pass (d + 1) (a := 68) H1 C1 wS h0 (Or.inr (Or.inl rfl)) e2 (nn := nn + k) (nit_n hN k) (by omega) (-1) _ rfl) (fun r90 h90 q90 => ?_)
    obtain ⟨rfl, f3, f4⟩ := q90
    rw [if_pos rfl] at f4
    have H3 := f3.St (H1)
    have C3 := C1.fr f3 (fun b hb => olA (by omega))
    refine je_pop (pc := 93) d9003_93 rfl ?_
    refine je_iload (pc := 94) d9003_94 rfl ?_
    refine je_aload0 (pc := 96) d9003_96 rfl ?_
    refine je_aload0 (pc := 97) d9003_97 rfl ?_
    refine ju_getr (pc := 98) (b := 68) d9003_98 jF_9_12 rfl (sK67 H3) (sR67_1 H3) ?_
    refine je_iload3 (pc := 101) d9003_101 rfl ?_
    refine ju_callv (pc := 102) (as := [_, _]) d9003_102 jL_9_57 jM_Ol_isHome rfl (by decide) (sK67 H3) rfl (by exact Nat.le_of_ble_eq_true rfl) (ol_home (d + 3) (a := 68) (l := (nitF S R (k + 1) L).1) H3 C3 wS (sL68 H3) hv f4.1) (fun r102 h102 q102 => ?_)
    obtain ⟨rfl, e102⟩ := q102
    obtain rfl := e102.symm
    refine ju_tern1 (pc := 105) (V := nI (if sdM S ((nitF S R (k + 1) L)).1 v = S.2.1.2.2.2.1 v then 1 else 0)) 113 ?_ (fun jn105 => ?_)
    · refine je_iadd (pc := 113) d9003_113 ?_
      refine ju_eqi (v := nI ((hmN S R v L k) + ((if sdM S ((nitF S R (k + 1) L)).1 v = S.2.1.2.2.2.1 v then 1 else 0)))) (nI_add (hmN S R v L k) ((if sdM S ((nitF S R (k + 1) L)).1 v = S.2.1.2.2.2.1 v then 1 else 0))) ?_
      refine ju_istore (pc := 114) (lv' := [some _, some _, some _, some _, some _, some _, some _, _]) d9003_114 rfl rfl ?_
      refine ju_incN (pc := 116) (v := nI ((k) + 1)) (lv' := [some _, some _, some _, some _, some _, some _, some _, _]) d9003_116 rfl (nI_1 (k)) rfl ?_
      refine je_goto (pc := 119) 24 d9003_119 (by decide) ?_
      exact kk xx _ ⟨e1.tr (f3.mo (fun b hb => by omega)), f4, by rw [f3.2 67 (by omega)]; exact e3⟩
    · refine jb_ifeq (pc := 105) 112 d9003_105 (by decide) (fun c105 => ?_) (fun c105 => ?_)
      · refine je_iconst (pc := 112) (v := 0) d9003_112 rfl ?_
        refine ju_eqi (v := nI (if sdM S ((nitF S R (k + 1) L)).1 v = S.2.1.2.2.2.1 v then 1 else 0)) (by rw [if_neg c105]; rfl) ?_
        exact jn105
      · refine je_iconst (pc := 108) (v := 1) d9003_108 rfl ?_
        refine je_goto (pc := 109) 113 d9003_109 (by decide) ?_
        refine ju_eqi (v := nI (if sdM S ((nitF S R (k + 1) L)).1 v = S.2.1.2.2.2.1 v then 1 else 0)) (by rw [if_pos c105]; rfl) ?_
        exact jn105
  · obtain ⟨e1, e2, e3⟩ := e
    have H1 := e1.St H
    have C1 := C.fr e1 (fun b hb => olA (by omega))
    have hmk := hmN_le S R v L n
    have eb : h'.2.1 40 4 = L.2.2.2.2.1 := by rw [e1.2 40 (by omega)]; exact hL.2.2.2.2.1
    refine je_iload (pc := 24) d9003_24 rfl ?_
    refine je_iload (pc := 26) d9003_26 rfl ?_
    refine jn_icge (pc := 28) (a := ((n))) (b := (n)) 122 d9003_28 (by decide) (by omega) (by omega) (fun c28 => ?_) (fun c28 => by exfalso; omega)
    refine je_iload (pc := 122) d9003_122 rfl ?_
    refine je_aload0 (pc := 124) d9003_124 rfl ?_
    refine ju_geti (pc := 125) d9003_125 jF_9_46 rfl (sK67 H1) ?_
    refine je_iclt (pc := 128) 142 d9003_128 (by decide) (fun c128 => ?_) (fun c128 => ?_)
    · refine je_ret (pc := 142) d9003_142 rfl ?_
      rw [e3.2] at c128
      exact absurd (Int32.lt_trans c128 (by decide)) (nI_pos (by omega))
    · refine je_aload0 (pc := 131) d9003_131 rfl ?_
      refine je_iload (pc := 132) d9003_132 rfl ?_
      refine ju_puti (pc := 134) d9003_134 jF_9_46 rfl (sK67 H1) ?_
      refine je_aload0 (pc := 137) d9003_137 rfl ?_
      refine je_iconst (pc := 138) (v := -1) d9003_138 rfl ?_
      refine ju_puti (pc := 139) d9003_139 jF_9_43 rfl (sK67 H1.wI) ?_
      refine je_ret (pc := 142) d9003_142 rfl ?_
      exact ⟨rfl, (e1.wI (by omega)).wI (by omega), by rw [wI_at, jx_up_self, hCR.1]; rfl, by rw [wI_at, jx_up_ne _ _ (by decide), wI_at, jx_up_self, hCR.2]⟩
set_option maxHeartbeats 8000000 in
theorem t_Ol_seekCrust (d : Nat) {bc bs : Nat} {h : jx_H} {S : MS} {R : Option MR} {L : ML} {nn : Nat} (H : jx_St h) (C : cLaw h S R) (wS : wfS S) (h0 : 0 < S.1.1) (hL : rL h.2.1 40 L) (hN : L.2.2.2.2.2 = nI nn) {v m n M : Nat} {o : Option Nat} (hv : v < S.1.2.1) (hm : m < 10) (h1n : 1 ≤ n) (hn : n ≤ 60) (hnn : nn + n < 998) (hb : ¬ bkd L.2.2.2.2.1 (nI m)) (hCR : CR (crT S R v m n L) n (hmN S R v L n) 0 o M) : jx_Tr (d + 6) bc bs 9003 [.ref 67, .ref 40, .int (nI m), .int (nI v), .int (nI n)] h (fun r h' => r = none ∧ fC (fun b => b = 65 ∨ 67 ≤ b ∧ b ≤ 77) h h' ∧ h'.2.1 67 4 = ovN nn o ∧ h'.2.1 67 5 = nI M) := by
  refine jx_tr jM_Ol_seekCrust rfl rfl (lv := [some (.ref 67), some (.ref 40), some (.int (nI m)), some (.int (nI v)), some (.int (nI n)), none, none, none]) rfl ?_
  refine je_aload0 (pc := 0) d9003_0 rfl ?_
  refine ju_getr (pc := 1) (b := 68) d9003_1 jF_9_12 rfl (sK67 H) (sR67_1 H) ?_
  refine je_aload1 (pc := 4) d9003_4 rfl ?_
  refine ju_callv (pc := 5) (as := [_]) d9003_5 jL_9_29 jM_La_copyFrom rfl (by decide) (sK68 H) rfl (by exact Nat.le_of_ble_eq_true rfl) (t_La_copyFrom (d + 3) (a := 68) (b := 40) (sL68 H) (sL40 H) (by decide)) (fun r5 h5 q5 => ?_)
  obtain ⟨rfl, f1, f2⟩ := q5
  have H0 := f1.St H
  have L0 := f2 L hL
  refine je_aload0 (pc := 8) d9003_8 rfl ?_
  refine je_iconst (pc := 9) (v := -1) d9003_9 rfl ?_
  refine ju_puti (pc := 10) d9003_10 jF_9_43 rfl (sK67 H0) ?_
  refine je_aload0 (pc := 13) d9003_13 rfl ?_
  refine je_iconst (pc := 14) (v := -1) d9003_14 rfl ?_
  refine ju_puti (pc := 15) d9003_15 jF_9_46 rfl (sK67 H0.wI) ?_
  refine je_iconst (pc := 18) (v := 0) d9003_18 rfl ?_
  refine ju_istore (pc := 19) (lv' := [some _, some _, some _, some _, some _, some _, none, none]) d9003_19 rfl rfl ?_
  refine je_iconst (pc := 21) (v := 0) d9003_21 rfl ?_
  refine ju_istore (pc := 22) (lv' := [some _, some _, some _, some _, some _, some _, some _, none]) d9003_22 rfl rfl ?_
  refine je_loop (σ := Option Value) (n) (fun k xx => [some (.ref 67), some (.ref 40), some (.int (nI m)), some (.int (nI v)), some (.int (nI n)), some (.int (nI (hmN S R v L k))), some (.int (nI k)), xx]) (fun k _ h' => fC (fun b => b = 65 ∨ 67 ≤ b ∧ b ≤ 77) h h' ∧ rL h'.2.1 68 (nitF S R k L) ∧ ((k = 0 ∧ h'.2.1 67 4 = -1 ∧ h'.2.1 67 5 = -1) ∨ ∃ b, AM (crT S R v m n L) k b ∧ h'.2.1 67 4 = nI (nn + b) ∧ h'.2.1 67 5 = nI (crT S R v m n L b))) (fun k xx h' hk e kk => ?_) (fun xx h' e => ?_) (0) none _ (by omega) ⟨((f1.mo (fun b hb => by omega)).wI (by omega)).wI (by omega), (L0.of (fun b h1 h2 => (wI_ne _ _ _ (by omega)).trans (wI_ne _ _ _ (by omega)))), Or.inl ⟨rfl, rfl, rfl⟩⟩
  · obtain ⟨e1, e2, e3⟩ := e
    have H1 := e1.St H
    have C1 := C.fr e1 (fun b hb => olA (by omega))
    have hmk := hmN_le S R v L k
    have eb : h'.2.1 40 4 = L.2.2.2.2.1 := by rw [e1.2 40 (by omega)]; exact hL.2.2.2.2.1
    refine je_iload (pc := 24) d9003_24 rfl ?_
    refine je_iload (pc := 26) d9003_26 rfl ?_
    refine jn_icge (pc := 28) (a := (k)) (b := (n)) 122 d9003_28 (by decide) (by omega) (by omega) (fun c28 => by exfalso; omega) (fun c28 => ?_)
    refine je_aload1 (pc := 31) d9003_31 rfl ?_
    refine je_iload2 (pc := 32) d9003_32 rfl ?_
    refine ju_callv (pc := 33) (as := [_]) d9003_33 jL_9_49 jM_La_isBaked rfl (by decide) (sK40 H1) rfl (by exact Nat.le_of_ble_eq_true rfl) (t_La_isBaked (d + 4) (sL40 H1) _) (fun r33 h33 q33 => ?_)
    obtain ⟨rfl, e33⟩ := q33
    obtain rfl := e33.symm
    refine jb_ifne (pc := 36) 81 d9003_36 (by decide) (fun c36 => absurd c36 (by rw [eb]; exact hb)) (fun c36 => ?_)
    refine je_iload (pc := 39) d9003_39 rfl ?_
    refine je_aload0 (pc := 41) d9003_41 rfl ?_
    refine je_iload2 (pc := 42) d9003_42 rfl ?_
    refine je_iload3 (pc := 43) d9003_43 rfl ?_
    refine je_iload (pc := 44) d9003_44 rfl ?_
    refine je_iload (pc := 46) d9003_46 rfl ?_
    refine je_isub (pc := 48) d9003_48 ?_
    refine ju_eqi (v := nI ((n) - (k))) (pk_sub (a := (n)) (b := (k)) (by omega)) ?_
    refine ju_callv (pc := 49) (as := [_, _, _]) d9003_49 jL_9_53 jM_Ol_nightsHome rfl (by decide) (sK67 H1) rfl (by exact Nat.le_of_ble_eq_true rfl) (t_Ol_nightsHome d H1 C1 wS h0 e2 (nit_n hN k) hv hm (n := n - k) (by omega) (by omega)) (fun r49 h49 q49 => ?_)
    obtain ⟨rfl, f1⟩ := q49
    have H2 := f1.St H1
    have C2 := C1.fr f1 (fun b hb => olA (by omega))
    have L2 : rL h49.2.1 68 (nitF S R k L) := e2.of (fun b h1 h2 => f1.2 b (by omega))
    have g67 : h49.2.1 67 = h'.2.1 67 := f1.2 67 (by omega)
    have hmj := hmN_le S R v (bakL m (nitF S R k L)) (n - k)
    refine je_iadd (pc := 52) d9003_52 ?_
    refine ju_eqi (v := nI ((hmN S R v L k) + (hmN S R v (bakL m (nitF S R k L)) (n - k)))) (nI_add (hmN S R v L k) (hmN S R v (bakL m (nitF S R k L)) (n - k))) ?_
    refine ju_istore (pc := 53) (lv' := [some _, some _, some _, some _, some _, some _, some _, some _]) d9003_53 rfl rfl ?_
    refine je_iload (pc := 55) d9003_55 rfl ?_
    refine je_aload0 (pc := 57) d9003_57 rfl ?_
    refine ju_geti (pc := 58) d9003_58 jF_9_46 rfl (sK67 H2) ?_
    refine je_iclt (pc := 61) 81 d9003_61 (by decide) (fun c61 => ?_) (fun c61 => ?_)
    · refine je_aload0 (pc := 81) d9003_81 rfl ?_
      refine ju_getr (pc := 82) (b := 51) d9003_82 jF_9_25 rfl (sK67 H2) (sR67_0 H2) ?_
      refine je_aload0 (pc := 85) d9003_85 rfl ?_
      refine ju_getr (pc := 86) (b := 68) d9003_86 jF_9_12 rfl (sK67 H2) (sR67_1 H2) ?_
      refine je_iconst (pc := 89) (v := -1) d9003_89 rfl ?_
      refine ju_callv (pc := 90) (as := [_, _]) d9003_90 jL_9_35 jM_Lw_pass rfl (by decide) (sK51 H2) rfl (by exact Nat.le_of_ble_eq_true rfl) (t_Lw_pass (d + 1) (a := 68) H2 C2 wS h0 (Or.inr (Or.inl rfl)) L2 (nn := nn + k) (nit_n hN k) (by omega) (-1) _ rfl) (fun r90 h90 q90 => ?_)
      obtain ⟨rfl, f3, f4⟩ := q90
      rw [if_pos rfl] at f4
      have H3 := f3.St (H2)
      have C3 := C2.fr f3 (fun b hb => olA (by omega))
      refine je_pop (pc := 93) d9003_93 rfl ?_
      refine je_iload (pc := 94) d9003_94 rfl ?_
      refine je_aload0 (pc := 96) d9003_96 rfl ?_
      refine je_aload0 (pc := 97) d9003_97 rfl ?_
      refine ju_getr (pc := 98) (b := 68) d9003_98 jF_9_12 rfl (sK67 H3) (sR67_1 H3) ?_
      refine je_iload3 (pc := 101) d9003_101 rfl ?_
      refine ju_callv (pc := 102) (as := [_, _]) d9003_102 jL_9_57 jM_Ol_isHome rfl (by decide) (sK67 H3) rfl (by exact Nat.le_of_ble_eq_true rfl) (ol_home (d + 3) (a := 68) (l := (nitF S R (k + 1) L).1) H3 C3 wS (sL68 H3) hv f4.1) (fun r102 h102 q102 => ?_)
      obtain ⟨rfl, e102⟩ := q102
      obtain rfl := e102.symm
      refine ju_tern1 (pc := 105) (V := nI (if sdM S ((nitF S R (k + 1) L)).1 v = S.2.1.2.2.2.1 v then 1 else 0)) 113 ?_ (fun jn105 => ?_)
      · refine je_iadd (pc := 113) d9003_113 ?_
        refine ju_eqi (v := nI ((hmN S R v L k) + ((if sdM S ((nitF S R (k + 1) L)).1 v = S.2.1.2.2.2.1 v then 1 else 0)))) (nI_add (hmN S R v L k) ((if sdM S ((nitF S R (k + 1) L)).1 v = S.2.1.2.2.2.1 v then 1 else 0))) ?_
        refine ju_istore (pc := 114) (lv' := [some _, some _, some _, some _, some _, some _, some _, some _]) d9003_114 rfl rfl ?_
        refine ju_incN (pc := 116) (v := nI ((k) + 1)) (lv' := [some _, some _, some _, some _, some _, some _, some _, some _]) d9003_116 rfl (nI_1 (k)) rfl ?_
        refine je_goto (pc := 119) 24 d9003_119 (by decide) ?_
        refine kk (some _) _ ⟨(e1.tr (f1.mo (fun b hb => by omega))).tr (f3.mo (fun b hb => by omega)), f4, Or.inr ?_⟩
        rw [f3.2 67 (by omega), g67]
        rw [g67] at c61
        rcases e3 with ⟨-, -, z⟩ | ⟨b, ⟨a1, a2, a3⟩, z1, z2⟩
        · rw [z] at c61
          exact absurd (Int32.lt_trans c61 (by decide)) (nI_pos (by omega))
        · rw [z2, nI_ltI (by omega) (by have := crT_le (S := S) (R := R) (v := v) (m := m) (n := n) (L := L) (k := b) (by omega); omega)] at c61
          refine ⟨b, ⟨by omega, fun i hi => ?_, fun i h1 h2 => ?_⟩, z1, z2⟩
          · by_cases c : i = k
            · rw [c]; exact Nat.le_of_lt c61
            · exact a2 i (by omega)
          · by_cases c : i = k
            · rw [c]; exact c61
            · exact a3 i h1 (by omega)
      · refine jb_ifeq (pc := 105) 112 d9003_105 (by decide) (fun c105 => ?_) (fun c105 => ?_)
        · refine je_iconst (pc := 112) (v := 0) d9003_112 rfl ?_
          refine ju_eqi (v := nI (if sdM S ((nitF S R (k + 1) L)).1 v = S.2.1.2.2.2.1 v then 1 else 0)) (by rw [if_neg c105]; rfl) ?_
          exact jn105
        · refine je_iconst (pc := 108) (v := 1) d9003_108 rfl ?_
          refine je_goto (pc := 109) 113 d9003_109 (by decide) ?_
          refine ju_eqi (v := nI (if sdM S ((nitF S R (k + 1) L)).1 v = S.2.1.2.2.2.1 v then 1 else 0)) (by rw [if_pos c105]; rfl) ?_
          exact jn105
    · refine je_aload0 (pc := 64) d9003_64 rfl ?_
      refine je_iload (pc := 65) d9003_65 rfl ?_
      refine ju_puti (pc := 67) d9003_67 jF_9_46 rfl (sK67 H2) ?_
      refine je_aload0 (pc := 70) d9003_70 rfl ?_
      refine je_aload0 (pc := 71) d9003_71 rfl ?_
      refine ju_getr (pc := 72) (b := 68) d9003_72 jF_9_12 rfl (sK67 H2.wI) (sR67_1 H2.wI) ?_
      refine ju_geti (pc := 75) d9003_75 jF_9_39 rfl (sK68 H2.wI) ?_
      refine ju_eqi (v := nI (nn + k)) (by rw [wI_ne _ _ _ (by decide), L2.2.2.2.2.2]; exact nit_n hN k) ?_
      refine ju_puti (pc := 78) d9003_78 jF_9_43 rfl (sK67 H2.wI) ?_
      refine je_aload0 (pc := 81) d9003_81 rfl ?_
      refine ju_getr (pc := 82) (b := 51) d9003_82 jF_9_25 rfl (sK67 H2.wI.wI) (sR67_0 H2.wI.wI) ?_
      refine je_aload0 (pc := 85) d9003_85 rfl ?_
      refine ju_getr (pc := 86) (b := 68) d9003_86 jF_9_12 rfl (sK67 H2.wI.wI) (sR67_1 H2.wI.wI) ?_
      refine je_iconst (pc := 89) (v := -1) d9003_89 rfl ?_
      have L2w := L2.of (I' := (jx_wI (jx_wI h49 67 5 (nI (hmN S R v L k + hmN S R v (bakL m (nitF S R k L)) (n - k)))) 67 4 (nI (nn + k))).2.1) (fun b h1 h2 => (wI_ne _ _ _ (by omega)).trans (wI_ne _ _ _ (by omega)))
      have C2w := C2.fr (((fC.rf (A := fun b => b = 67)).wI (k := 5) (v := (nI (hmN S R v L k + hmN S R v (bakL m (nitF S R k L)) (n - k)))) rfl).wI (k := 4) (v := nI (nn + k)) rfl) (fun b hb => olA (by omega))
      refine ju_callv (pc := 90) (as := [_, _]) d9003_90 jL_9_35 jM_Lw_pass rfl (by decide) (sK51 H2.wI.wI) rfl (by exact Nat.le_of_ble_eq_true rfl) (t_Lw_pass (d + 1) (a := 68) H2.wI.wI C2w wS h0 (Or.inr (Or.inl rfl)) L2w (nn := nn + k) (nit_n hN k) (by omega) (-1) _ rfl) (fun r90 h90 q90 => ?_)
      obtain ⟨rfl, f3, f4⟩ := q90
      rw [if_pos rfl] at f4
      have H3 := f3.St (H2.wI.wI)
      have C3 := C2w.fr f3 (fun b hb => olA (by omega))
      refine je_pop (pc := 93) d9003_93 rfl ?_
      refine je_iload (pc := 94) d9003_94 rfl ?_
      refine je_aload0 (pc := 96) d9003_96 rfl ?_
      refine je_aload0 (pc := 97) d9003_97 rfl ?_
      refine ju_getr (pc := 98) (b := 68) d9003_98 jF_9_12 rfl (sK67 H3) (sR67_1 H3) ?_
      refine je_iload3 (pc := 101) d9003_101 rfl ?_
      refine ju_callv (pc := 102) (as := [_, _]) d9003_102 jL_9_57 jM_Ol_isHome rfl (by decide) (sK67 H3) rfl (by exact Nat.le_of_ble_eq_true rfl) (ol_home (d + 3) (a := 68) (l := (nitF S R (k + 1) L).1) H3 C3 wS (sL68 H3) hv f4.1) (fun r102 h102 q102 => ?_)
      obtain ⟨rfl, e102⟩ := q102
      obtain rfl := e102.symm
      refine ju_tern1 (pc := 105) (V := nI (if sdM S ((nitF S R (k + 1) L)).1 v = S.2.1.2.2.2.1 v then 1 else 0)) 113 ?_ (fun jn105 => ?_)
      · refine je_iadd (pc := 113) d9003_113 ?_
        refine ju_eqi (v := nI ((hmN S R v L k) + ((if sdM S ((nitF S R (k + 1) L)).1 v = S.2.1.2.2.2.1 v then 1 else 0)))) (nI_add (hmN S R v L k) ((if sdM S ((nitF S R (k + 1) L)).1 v = S.2.1.2.2.2.1 v then 1 else 0))) ?_
        refine ju_istore (pc := 114) (lv' := [some _, some _, some _, some _, some _, some _, some _, some _]) d9003_114 rfl rfl ?_
        refine ju_incN (pc := 116) (v := nI ((k) + 1)) (lv' := [some _, some _, some _, some _, some _, some _, some _, some _]) d9003_116 rfl (nI_1 (k)) rfl ?_
        refine je_goto (pc := 119) 24 d9003_119 (by decide) ?_
        refine kk (some _) _ ⟨(((e1.tr (f1.mo (fun b hb => by omega))).wI (by omega)).wI (by omega)).tr (f3.mo (fun b hb => by omega)), f4, Or.inr ⟨k, ⟨by omega, fun i hi => ?_, fun i h1 h2 => by omega⟩, ?_, ?_⟩⟩
        · by_cases c : i = k
          · rw [c]; exact Nat.le_refl _
          · rw [g67] at c61
            rcases e3 with ⟨z, -⟩ | ⟨b, ⟨a1, a2, a3⟩, z1, z2⟩
            · omega
            · rw [z2, nI_ltI (by omega) (by have := crT_le (S := S) (R := R) (v := v) (m := m) (n := n) (L := L) (k := b) (by omega); omega)] at c61
              exact Nat.le_trans (a2 i (by omega)) (Nat.le_of_not_lt c61)
        · rw [f3.2 67 (by omega), wI_at, jx_up_self]
        · rw [f3.2 67 (by omega), wI_at, jx_up_ne _ _ (by decide), wI_at, jx_up_self]
          rfl
      · refine jb_ifeq (pc := 105) 112 d9003_105 (by decide) (fun c105 => ?_) (fun c105 => ?_)
        · refine je_iconst (pc := 112) (v := 0) d9003_112 rfl ?_
          refine ju_eqi (v := nI (if sdM S ((nitF S R (k + 1) L)).1 v = S.2.1.2.2.2.1 v then 1 else 0)) (by rw [if_neg c105]; rfl) ?_
          exact jn105
        · refine je_iconst (pc := 108) (v := 1) d9003_108 rfl ?_
          refine je_goto (pc := 109) 113 d9003_109 (by decide) ?_
          refine ju_eqi (v := nI (if sdM S ((nitF S R (k + 1) L)).1 v = S.2.1.2.2.2.1 v then 1 else 0)) (by rw [if_pos c105]; rfl) ?_
          exact jn105
  · obtain ⟨e1, e2, e3⟩ := e
    have H1 := e1.St H
    have C1 := C.fr e1 (fun b hb => olA (by omega))
    have hmk := hmN_le S R v L n
    have eb : h'.2.1 40 4 = L.2.2.2.2.1 := by rw [e1.2 40 (by omega)]; exact hL.2.2.2.2.1
    refine je_iload (pc := 24) d9003_24 rfl ?_
    refine je_iload (pc := 26) d9003_26 rfl ?_
    refine jn_icge (pc := 28) (a := ((n))) (b := (n)) 122 d9003_28 (by decide) (by omega) (by omega) (fun c28 => ?_) (fun c28 => by exfalso; omega)
    refine je_iload (pc := 122) d9003_122 rfl ?_
    refine je_aload0 (pc := 124) d9003_124 rfl ?_
    refine ju_geti (pc := 125) d9003_125 jF_9_46 rfl (sK67 H1) ?_
    refine je_iclt (pc := 128) 142 d9003_128 (by decide) (fun c128 => ?_) (fun c128 => ?_)
    · refine je_ret (pc := 142) d9003_142 rfl ?_
      rcases e3 with ⟨z, -⟩ | ⟨b, ⟨a1, a2, a3⟩, z1, z2⟩
      · omega
      · rw [z2, nI_ltI (by omega) (by have := crT_le (S := S) (R := R) (v := v) (m := m) (n := n) (L := L) (k := b) (by omega); omega)] at c128
        obtain ⟨rfl, rfl⟩ := hCR.u (Or.inr ⟨b, rfl, by omega, a1, rfl, c128, fun k _ h2 => a2 k h2, a3⟩)
        exact ⟨rfl, e1, z1, z2⟩
    · refine je_aload0 (pc := 131) d9003_131 rfl ?_
      refine je_iload (pc := 132) d9003_132 rfl ?_
      refine ju_puti (pc := 134) d9003_134 jF_9_46 rfl (sK67 H1) ?_
      refine je_aload0 (pc := 137) d9003_137 rfl ?_
      refine je_iconst (pc := 138) (v := -1) d9003_138 rfl ?_
      refine ju_puti (pc := 139) d9003_139 jF_9_43 rfl (sK67 H1.wI) ?_
      refine je_ret (pc := 142) d9003_142 rfl ?_
      rcases e3 with ⟨z, -⟩ | ⟨b, ⟨a1, a2, a3⟩, z1, z2⟩
      · omega
      · rw [z2, nI_ltI (by omega) (by have := crT_le (S := S) (R := R) (v := v) (m := m) (n := n) (L := L) (k := b) (by omega); omega)] at c128
        obtain ⟨rfl, rfl⟩ := hCR.u (Or.inl ⟨rfl, rfl, fun k _ h2 => Nat.le_trans (a2 k h2) (Nat.le_of_not_lt c128)⟩)
        exact ⟨rfl, (e1.wI (by omega)).wI (by omega), by rw [wI_at, jx_up_self]; rfl, by rw [wI_at, jx_up_ne _ _ (by decide), wI_at, jx_up_self]⟩
