/-! dukes: the model, its small methods -/
/-- a land saved -/
def dSv (h : jx_H) (k : Nat) (L : ML) : Prop := (∀ m, m < 10 → h.2.1 296 (21 * k + m) = L.1 m ∧ h.2.1 296 (21 * k + 10 + m) = L.2.1 m) ∧ h.2.1 296 (21 * k + 20) = L.2.2.2.2.2
def wcL (cr : Nat → Int32) (L : ML) : ML := (L.1, L.2.1, L.2.2.1, cr, L.2.2.2.2)
theorem nx_wc (S : MS) (R : Option MR) (cr : Nat → Int32) (L : ML) : nxF S R (wcL cr L) = wcL (croF S L.1 (nxF S R L).1 cr) (nxF S R L) := rfl
theorem mv_wc (m : Nat) (x : Int32) (cr : Nat → Int32) (L : ML) : mvL m x (wcL cr L) = wcL cr (mvL m x L) := rfl
set_option maxHeartbeats 4000000 in
theorem t_Mo_movesDuke (d : Nat) {bc bs : Nat} {h : jx_H} {q : Nat} {L : ML} (H : jx_St h) (hq : q < 4) (hL : mLa h.2.1 L) : jx_Tr (d + 1) bc bs 12091 [.ref 253, .int (nI q), .int 0] h (fun r h' => r = none ∧ fC (fun b => b = 296) h h' ∧ dSv h' q L ∧ ∀ i, i < 21 * q → h'.2.1 296 i = h.2.1 296 i) := by
  refine jx_tr jM_Mo_movesDuke rfl rfl (lv := [some (.ref 253), some (.int (nI q)), some (.int 0), none, none]) rfl ?_
  refine je_bipush (pc := 0) (v := 21) d12091_0 rfl ?_
  refine je_iload1 (pc := 2) d12091_2 rfl ?_
  refine je_imul (pc := 3) d12091_3 ?_
  refine ju_eqi (v := nI (21 * (q))) (pk_mul 21 (q)) ?_
  refine ju_istore3 (pc := 4) (lv' := [some _, some _, some _, some _, none]) d12091_4 rfl rfl ?_
  refine je_iconst (pc := 5) (v := 0) d12091_5 rfl ?_
  refine ju_istore (pc := 6) (lv' := [some _, some _, some _, some _, some _]) d12091_6 rfl rfl ?_
  refine je_loop (σ := Unit) (10) (fun k xx => [some (.ref 253), some (.int (nI q)), some (.int 0), some (.int (nI (21 * q))), some (.int (nI k))]) (fun k _ h' => fC (fun b => b = 296) h h' ∧ (∀ m, m < k → h'.2.1 296 (21 * q + m) = L.1 m ∧ h'.2.1 296 (21 * q + 10 + m) = L.2.1 m) ∧ ∀ i, i < 21 * q → h'.2.1 296 i = h.2.1 296 i) (fun k xx h' hk e kk => ?_) (fun xx h' e => ?_) (0) () h (by omega) ⟨fC.rf, fun m hm => absurd hm (Nat.not_lt_zero m), fun _ _ => rfl⟩
  · obtain ⟨e1, e2, e3⟩ := e
    have H1 := e1.St H
    have l1 : h'.2.1 255 k = L.1 k := by rw [e1.2 255 (by omega)]; exact (hL.1 k hk).1
    have l2 : h'.2.1 256 k = L.2.1 k := by rw [e1.2 256 (by omega)]; exact (hL.1 k hk).2.1
    refine je_iload (pc := 8) d12091_8 rfl ?_
    refine je_bipush (pc := 10) (v := 10) d12091_10 rfl ?_
    refine jn_icge (pc := 12) (a := (k)) (b := 10) 98 d12091_12 (by decide) (by omega) (by omega) (fun c12 => by exfalso; omega) (fun c12 => ?_)
    refine je_iload2 (pc := 15) d12091_15 rfl ?_
    refine jn_ifeq (pc := 16) (a := 0) 57 d12091_16 (by decide) (by omega) (fun c16 => ?_) (fun c16 => by exfalso; omega)
    refine je_aload0 (pc := 57) d12091_57 rfl ?_
    refine ju_getr (pc := 58) (b := 296) d12091_58 jF_12_142 rfl (sK253 H1) (sR253_56 H1) ?_
    refine je_iload3 (pc := 61) d12091_61 rfl ?_
    refine je_iload (pc := 62) d12091_62 rfl ?_
    refine je_iadd (pc := 64) d12091_64 ?_
    refine ju_eqi (v := nI ((21 * q) + (k))) (nI_add (21 * q) (k)) ?_
    refine je_aload0 (pc := 65) d12091_65 rfl ?_
    refine ju_getr (pc := 66) (b := 255) d12091_66 jF_12_13 rfl (sK253 H1) (sR253_2 H1) ?_
    refine je_iload (pc := 69) d12091_69 rfl ?_
    refine ju_iald (pc := 71) (jn := (k)) d12091_71 (sK255 H1) (vp_in_nI (by omega) (by decide)) (nI_clamp (by omega)) ?_
    refine ju_eqi (v := L.1 k) l1 ?_
    refine ju_iast (pc := 72) (jn := ((21 * q) + (k))) d12091_72 (sK296 H1) (vp_in_nI (by omega) (by decide)) (nI_clamp (by omega)) ?_
    refine je_aload0 (pc := 73) d12091_73 rfl ?_
    refine ju_getr (pc := 74) (b := 296) d12091_74 jF_12_142 rfl (sK253 H1.wI) (sR253_56 H1.wI) ?_
    refine je_iload3 (pc := 77) d12091_77 rfl ?_
    refine je_bipush (pc := 78) (v := 10) d12091_78 rfl ?_
    refine je_iadd (pc := 80) d12091_80 ?_
    refine ju_eqi (v := nI ((21 * q) + 10)) (nI_add (21 * q) 10) ?_
    refine je_iload (pc := 81) d12091_81 rfl ?_
    refine je_iadd (pc := 83) d12091_83 ?_
    refine ju_eqi (v := nI (((21 * q) + 10) + (k))) (nI_add ((21 * q) + 10) (k)) ?_
    refine je_aload0 (pc := 84) d12091_84 rfl ?_
    refine ju_getr (pc := 85) (b := 256) d12091_85 jF_12_16 rfl (sK253 H1.wI) (sR253_3 H1.wI) ?_
    refine je_iload (pc := 88) d12091_88 rfl ?_
    refine ju_iald (pc := 90) (jn := (k)) d12091_90 (sK256 H1.wI) (vp_in_nI (by omega) (by decide)) (nI_clamp (by omega)) ?_
    refine ju_eqi (v := L.2.1 k) (by rw [wI_ne _ _ _ (by decide)]; exact l2) ?_
    refine ju_iast (pc := 91) (jn := (((21 * q) + 10) + (k))) d12091_91 (sK296 H1.wI) (vp_in_nI (by omega) (by decide)) (nI_clamp (by omega)) ?_
    refine ju_incN (pc := 92) (v := nI ((k) + 1)) (lv' := [some _, some _, some _, some _, some _]) d12091_92 rfl (nI_1 (k)) rfl ?_
    refine je_goto (pc := 95) 8 d12091_95 (by decide) ?_
    refine kk () _ ⟨(e1.wI rfl).wI rfl, fun m hm => ?_, fun i hi => ?_⟩
    · rw [wI_at, wI_at]
      by_cases c : m = k
      · subst c
        rw [jx_up_ne _ _ (by omega), jx_up_self, jx_up_self]
        exact ⟨rfl, rfl⟩
      · rw [jx_up_ne _ _ (by omega), jx_up_ne _ _ (by omega), jx_up_ne _ _ (by omega), jx_up_ne _ _ (by omega)]
        exact e2 m (by omega)
    · rw [wI_at, jx_up_ne _ _ (by omega), wI_at, jx_up_ne _ _ (by omega)]; exact e3 i hi
  · obtain ⟨e1, e2, e3⟩ := e
    have H1 := e1.St H
    refine je_iload (pc := 8) d12091_8 rfl ?_
    refine je_bipush (pc := 10) (v := 10) d12091_10 rfl ?_
    refine jn_icge (pc := 12) (a := ((10))) (b := 10) 98 d12091_12 (by decide) (by omega) (by omega) (fun c12 => ?_) (fun c12 => by exfalso; omega)
    refine je_iload2 (pc := 98) d12091_98 rfl ?_
    refine jn_ifeq (pc := 99) (a := 0) 120 d12091_99 (by decide) (by omega) (fun c99 => ?_) (fun c99 => by exfalso; omega)
    refine je_aload0 (pc := 120) d12091_120 rfl ?_
    refine ju_getr (pc := 121) (b := 296) d12091_121 jF_12_142 rfl (sK253 H1) (sR253_56 H1) ?_
    refine je_iload3 (pc := 124) d12091_124 rfl ?_
    refine je_bipush (pc := 125) (v := 20) d12091_125 rfl ?_
    refine je_iadd (pc := 127) d12091_127 ?_
    refine ju_eqi (v := nI ((21 * q) + 20)) (nI_add (21 * q) 20) ?_
    refine je_aload0 (pc := 128) d12091_128 rfl ?_
    refine ju_getr (pc := 129) (b := 254) d12091_129 jF_12_9 rfl (sK253 H1) (sR253_1 H1) ?_
    refine je_iconst (pc := 132) (v := 5) d12091_132 rfl ?_
    refine ju_iald (pc := 133) (jn := 5) d12091_133 (sK254 H1) (by first | assumption | exact jx_ok_dec (by decide)) (by decide) ?_
    refine ju_eqi (v := L.2.2.2.2.2) (by rw [e1.2 254 (by omega)]; exact hL.2.2.2) ?_
    refine ju_iast (pc := 134) (jn := ((21 * q) + 20)) d12091_134 (sK296 H1) (vp_in_nI (by omega) (by decide)) (nI_clamp (by omega)) ?_
    refine je_ret (pc := 135) d12091_135 rfl ?_
    refine ⟨rfl, e1.wI rfl, ⟨fun m hm => ?_, ?_⟩, fun i hi => ?_⟩
    · rw [wI_at, jx_up_ne _ _ (by omega), jx_up_ne _ _ (by omega)]; exact e2 m hm
    · rw [wI_at, jx_up_self]
    · rw [wI_at, jx_up_ne _ _ (by omega)]; exact e3 i hi
set_option maxHeartbeats 4000000 in
theorem t_Mo_movesDuke_b (d : Nat) {bc bs : Nat} {h : jx_H} {q : Nat} {L L' : ML} (H : jx_St h) (hq : q < 4) (hD : dSv h q L) (hL : mLa h.2.1 L') (es : L'.2.2.1 = L.2.2.1) (eb : L'.2.2.2.2.1 = L.2.2.2.2.1) : jx_Tr (d + 1) bc bs 12091 [.ref 253, .int (nI q), .int 1] h (fun r h' => r = none ∧ fC (fun b => 254 ≤ b ∧ b ≤ 256) h h' ∧ (∀ j, j ≠ 5 → h'.2.1 254 j = h.2.1 254 j) ∧ mLa h'.2.1 (wcL L'.2.2.2.1 L)) := by
  refine jx_tr jM_Mo_movesDuke rfl rfl (lv := [some (.ref 253), some (.int (nI q)), some (.int 1), none, none]) rfl ?_
  refine je_bipush (pc := 0) (v := 21) d12091_0 rfl ?_
  refine je_iload1 (pc := 2) d12091_2 rfl ?_
  refine je_imul (pc := 3) d12091_3 ?_
  refine ju_eqi (v := nI (21 * (q))) (pk_mul 21 (q)) ?_
  refine ju_istore3 (pc := 4) (lv' := [some _, some _, some _, some _, none]) d12091_4 rfl rfl ?_
  refine je_iconst (pc := 5) (v := 0) d12091_5 rfl ?_
  refine ju_istore (pc := 6) (lv' := [some _, some _, some _, some _, some _]) d12091_6 rfl rfl ?_
  refine je_loop (σ := Unit) (10) (fun k xx => [some (.ref 253), some (.int (nI q)), some (.int 1), some (.int (nI (21 * q))), some (.int (nI k))]) (fun k _ h' => fC (fun b => 255 ≤ b ∧ b ≤ 256) h h' ∧ ∀ m, m < k → h'.2.1 255 m = L.1 m ∧ h'.2.1 256 m = L.2.1 m) (fun k xx h' hk e kk => ?_) (fun xx h' e => ?_) (0) () h (by omega) ⟨fC.rf, fun m hm => absurd hm (Nat.not_lt_zero m)⟩
  · obtain ⟨e1, e2⟩ := e
    have H1 := e1.St H
    have d1 : h'.2.1 296 (21 * q + k) = L.1 k := by rw [e1.2 296 (by omega)]; exact (hD.1 k hk).1
    have d2 : h'.2.1 296 (21 * q + 10 + k) = L.2.1 k := by rw [e1.2 296 (by omega)]; exact (hD.1 k hk).2
    refine je_iload (pc := 8) d12091_8 rfl ?_
    refine je_bipush (pc := 10) (v := 10) d12091_10 rfl ?_
    refine jn_icge (pc := 12) (a := (k)) (b := 10) 98 d12091_12 (by decide) (by omega) (by omega) (fun c12 => by exfalso; omega) (fun c12 => ?_)
    refine je_iload2 (pc := 15) d12091_15 rfl ?_
    refine jn_ifeq (pc := 16) (a := 1) 57 d12091_16 (by decide) (by omega) (fun c16 => by exfalso; omega) (fun c16 => ?_)
    refine je_aload0 (pc := 19) d12091_19 rfl ?_
    refine ju_getr (pc := 20) (b := 255) d12091_20 jF_12_13 rfl (sK253 H1) (sR253_2 H1) ?_
    refine je_iload (pc := 23) d12091_23 rfl ?_
    refine je_aload0 (pc := 25) d12091_25 rfl ?_
    refine ju_getr (pc := 26) (b := 296) d12091_26 jF_12_142 rfl (sK253 H1) (sR253_56 H1) ?_
    refine je_iload3 (pc := 29) d12091_29 rfl ?_
    refine je_iload (pc := 30) d12091_30 rfl ?_
    refine je_iadd (pc := 32) d12091_32 ?_
    refine ju_eqi (v := nI ((21 * q) + (k))) (nI_add (21 * q) (k)) ?_
    refine ju_iald (pc := 33) (jn := ((21 * q) + (k))) d12091_33 (sK296 H1) (vp_in_nI (by omega) (by decide)) (nI_clamp (by omega)) ?_
    refine ju_eqi (v := L.1 k) d1 ?_
    refine ju_iast (pc := 34) (jn := (k)) d12091_34 (sK255 H1) (vp_in_nI (by omega) (by decide)) (nI_clamp (by omega)) ?_
    refine je_aload0 (pc := 35) d12091_35 rfl ?_
    refine ju_getr (pc := 36) (b := 256) d12091_36 jF_12_16 rfl (sK253 H1.wI) (sR253_3 H1.wI) ?_
    refine je_iload (pc := 39) d12091_39 rfl ?_
    refine je_aload0 (pc := 41) d12091_41 rfl ?_
    refine ju_getr (pc := 42) (b := 296) d12091_42 jF_12_142 rfl (sK253 H1.wI) (sR253_56 H1.wI) ?_
    refine je_iload3 (pc := 45) d12091_45 rfl ?_
    refine je_bipush (pc := 46) (v := 10) d12091_46 rfl ?_
    refine je_iadd (pc := 48) d12091_48 ?_
    refine ju_eqi (v := nI ((21 * q) + 10)) (nI_add (21 * q) 10) ?_
    refine je_iload (pc := 49) d12091_49 rfl ?_
    refine je_iadd (pc := 51) d12091_51 ?_
    refine ju_eqi (v := nI (((21 * q) + 10) + (k))) (nI_add ((21 * q) + 10) (k)) ?_
    refine ju_iald (pc := 52) (jn := (((21 * q) + 10) + (k))) d12091_52 (sK296 H1.wI) (vp_in_nI (by omega) (by decide)) (nI_clamp (by omega)) ?_
    refine ju_eqi (v := L.2.1 k) (by rw [wI_ne _ _ _ (by decide)]; exact d2) ?_
    refine ju_iast (pc := 53) (jn := (k)) d12091_53 (sK256 H1.wI) (vp_in_nI (by omega) (by decide)) (nI_clamp (by omega)) ?_
    refine je_goto (pc := 54) 92 d12091_54 (by decide) ?_
    refine ju_incN (pc := 92) (v := nI ((k) + 1)) (lv' := [some _, some _, some _, some _, some _]) d12091_92 rfl (nI_1 (k)) rfl ?_
    refine je_goto (pc := 95) 8 d12091_95 (by decide) ?_
    refine kk () _ ⟨(e1.wI (by omega)).wI (by omega), fun m hm => ?_⟩
    rw [wI_at, wI_ne _ _ _ (by decide), wI_at, wI_ne _ _ _ (by decide)]
    by_cases c : m = k
    · subst c; rw [jx_up_self, jx_up_self]; exact ⟨rfl, rfl⟩
    · rw [jx_up_ne _ _ c, jx_up_ne _ _ c]; exact e2 m (by omega)
  · obtain ⟨e1, e2⟩ := e
    have H1 := e1.St H
    refine je_iload (pc := 8) d12091_8 rfl ?_
    refine je_bipush (pc := 10) (v := 10) d12091_10 rfl ?_
    refine jn_icge (pc := 12) (a := ((10))) (b := 10) 98 d12091_12 (by decide) (by omega) (by omega) (fun c12 => ?_) (fun c12 => by exfalso; omega)
    refine je_iload2 (pc := 98) d12091_98 rfl ?_
    refine jn_ifeq (pc := 99) (a := 1) 120 d12091_99 (by decide) (by omega) (fun c99 => by exfalso; omega) (fun c99 => ?_)
    refine je_aload0 (pc := 102) d12091_102 rfl ?_
    refine ju_getr (pc := 103) (b := 254) d12091_103 jF_12_9 rfl (sK253 H1) (sR253_1 H1) ?_
    refine je_iconst (pc := 106) (v := 5) d12091_106 rfl ?_
    refine je_aload0 (pc := 107) d12091_107 rfl ?_
    refine ju_getr (pc := 108) (b := 296) d12091_108 jF_12_142 rfl (sK253 H1) (sR253_56 H1) ?_
    refine je_iload3 (pc := 111) d12091_111 rfl ?_
    refine je_bipush (pc := 112) (v := 20) d12091_112 rfl ?_
    refine je_iadd (pc := 114) d12091_114 ?_
    refine ju_eqi (v := nI ((21 * q) + 20)) (nI_add (21 * q) 20) ?_
    refine ju_iald (pc := 115) (jn := ((21 * q) + 20)) d12091_115 (sK296 H1) (vp_in_nI (by omega) (by decide)) (nI_clamp (by omega)) ?_
    refine ju_eqi (v := L.2.2.2.2.2) (by rw [e1.2 296 (by omega)]; exact hD.2) ?_
    refine ju_iast (pc := 116) (jn := 5) d12091_116 (sK254 H1) (by first | assumption | exact jx_ok_dec (by decide)) (by decide) ?_
    refine je_goto (pc := 117) 135 d12091_117 (by decide) ?_
    refine je_ret (pc := 135) d12091_135 rfl ?_
    refine ⟨rfl, (e1.mo (fun b hb => by omega)).wI (by omega), fun j hj => by rw [wI_at, jx_up_ne _ _ hj, e1.2 254 (by omega)], fun m hm => ⟨?_, ?_, ?_⟩, fun v hv => ?_, ?_, ?_⟩
    · rw [wI_ne _ _ _ (by decide)]; exact (e2 m hm).1
    · rw [wI_ne _ _ _ (by decide)]; exact (e2 m hm).2
    · rw [wI_ne _ _ _ (by decide), e1.2 257 (by omega), (hL.1 m hm).2.2, es]; rfl
    · rw [wI_ne _ _ _ (by decide), e1.2 262 (by omega)]; exact hL.2.1 v hv
    · rw [wI_at, jx_up_ne _ _ (by decide), e1.2 254 (by omega), hL.2.2.1, eb]; rfl
    · rw [wI_at, jx_up_self]; rfl
theorem pop_s (b k : Nat) : pop k b + b / 2 ^ k % 2 = pop (k + 1) b := by rw [pop, cc_bit]
set_option maxHeartbeats 2000000 in
theorem t_Mo_bits (d : Nat) {bc bs : Nat} {h : jx_H} {z : Nat} (hz : z < 65536) : jx_Tr (d + 1) bc bs 12093 [.int (nI z)] h (fun r h' => r = some (.int (nI (pop 16 z))) ∧ h' = h) := by
  refine jx_tr jM_Mo_bits rfl rfl (lv := [some (.int (nI z)), none, none]) rfl ?_
  refine je_iconst (pc := 0) (v := 0) d12093_0 rfl ?_
  refine ju_istore1 (pc := 1) (lv' := [some _, some _, none]) d12093_1 rfl rfl ?_
  refine je_iconst (pc := 2) (v := 0) d12093_2 rfl ?_
  refine ju_istore2 (pc := 3) (lv' := [some _, some _, some _]) d12093_3 rfl rfl ?_
  refine je_loop (σ := Unit) (16) (fun k xx => [some (.int (nI z)), some (.int (nI (pop k z))), some (.int (nI k))]) (fun _ _ h' => h' = h) (fun k xx h' hk e kk => ?_) (fun xx h' e => ?_) (0) () h (by omega) rfl
  · obtain rfl := e.symm
    have zq : z / 2 ^ k ≤ z := Nat.div_le_self _ _
    refine je_iload2 (pc := 4) d12093_4 rfl ?_
    refine je_bipush (pc := 5) (v := 16) d12093_5 rfl ?_
    refine jn_icge (pc := 7) (a := (k)) (b := 16) 24 d12093_7 (by decide) (by omega) (by omega) (fun c7 => by exfalso; omega) (fun c7 => ?_)
    refine je_iload1 (pc := 10) d12093_10 rfl ?_
    refine je_iload0 (pc := 11) d12093_11 rfl ?_
    refine je_iload2 (pc := 12) d12093_12 rfl ?_
    refine je_ishr (pc := 13) d12093_13 ?_
    refine ju_eqi (v := nI (z / 2 ^ k)) (sh_r (by omega) (by omega)) ?_
    refine je_iconst (pc := 14) (v := 1) d12093_14 rfl ?_
    refine je_iand (pc := 15) d12093_15 ?_
    refine ju_eqi (v := nI (z / 2 ^ k % 2)) (pk_andN (by omega) 1 (by decide)) ?_
    refine je_iadd (pc := 16) d12093_16 ?_
    refine ju_eqi (v := nI ((pop k z) + (z / 2 ^ k % 2))) (nI_add (pop k z) (z / 2 ^ k % 2)) ?_
    refine ju_istore1 (pc := 17) (lv' := [some _, some _, some _]) d12093_17 rfl rfl ?_
    refine ju_incN (pc := 18) (v := nI ((k) + 1)) (lv' := [some _, some _, some _]) d12093_18 rfl (nI_1 (k)) rfl ?_
    refine je_goto (pc := 21) 4 d12093_21 (by decide) ?_
    rw [pop_s]
    exact kk () _ rfl
  · obtain rfl := e.symm
    refine je_iload2 (pc := 4) d12093_4 rfl ?_
    refine je_bipush (pc := 5) (v := 16) d12093_5 rfl ?_
    refine jn_icge (pc := 7) (a := ((16))) (b := 16) 24 d12093_7 (by decide) (by omega) (by omega) (fun c7 => ?_) (fun c7 => by exfalso; omega)
    refine je_iload1 (pc := 24) d12093_24 rfl ?_
    refine je_iret (pc := 25) d12093_25 rfl ?_
    exact ⟨rfl, rfl⟩
theorem pop_16 {z : Nat} (h : z < 2 ^ 10) : pop 16 z = pop 10 z := by
  rw [pop_cnt, pop_cnt]
  exact fa_cnt_stop (by decide) (fun i h1 _ => Nat.testBit_lt_two_pow (Nat.lt_of_lt_of_le h (Nat.pow_le_pow_right (by decide) h1)))
theorem on_10 (S : MS) (l : Nat → Int32) (sd : Int32) (h : S.1.2.1 ≤ 8) : onN S l sd S.1.2.1 < 2 ^ 10 := Nat.lt_of_lt_of_le (onN_lt S l sd) (Nat.pow_le_pow_right (by decide) (by omega))
set_option maxHeartbeats 2000000 in
theorem t_Mo_westLessEast (d : Nat) {bc bs : Nat} {h : jx_H} {S : MS} {l : Nat → Int32} (H : jx_St h) (hS : mSt h.2.1 S) (wS : wfS S) (hl : ∀ m, m < 10 → h.2.1 255 m = l m) : jx_Tr (d + 3) bc bs 12092 [.ref 253] h (fun r h' => r = some (.int (iZ (lfZ S l))) ∧ h' = h) := by
  refine jx_tr jM_Mo_westLessEast rfl rfl (lv := [some (.ref 253)]) rfl ?_
  have w8 := wS.2.1
  have p0 := pop_v S l 0 w8
  have p1 := pop_v S l 1 w8
  have o0 := on_10 S l 0 w8
  have o1 := on_10 S l 1 w8
  refine je_aload0 (pc := 0) d12092_0 rfl ?_
  refine je_iconst (pc := 1) (v := 0) d12092_1 rfl ?_
  refine ju_callv (pc := 2) (as := [_]) d12092_2 jL_12_488 jM_Mo_villagesOn rfl (by decide) (sK253 H) rfl (by exact Nat.le_of_ble_eq_true rfl) (t_Mo_villagesOn d (S := S) (l := l) H hS wS hl 0) (fun r2 h2 q2 => ?_)
  obtain ⟨rfl, e2⟩ := q2
  obtain rfl := e2.symm
  refine ju_calls (pc := 5) (as := [_]) d12092_5 jL_12_503 jM_Mo_bits rfl rfl (by exact Nat.le_of_ble_eq_true rfl) (t_Mo_bits (d + 1) (z := onN S l 0 S.1.2.1) (by omega)) (fun r5 h5 q5 => ?_)
  obtain ⟨rfl, e5⟩ := q5
  obtain rfl := e5.symm
  refine ju_eqi (v := nI (pop 10 (onN S l 0 S.1.2.1))) (by rw [pop_16 o0]) ?_
  refine je_aload0 (pc := 8) d12092_8 rfl ?_
  refine je_iconst (pc := 9) (v := 1) d12092_9 rfl ?_
  refine ju_callv (pc := 10) (as := [_]) d12092_10 jL_12_488 jM_Mo_villagesOn rfl (by decide) (sK253 H) rfl (by exact Nat.le_of_ble_eq_true rfl) (t_Mo_villagesOn d (S := S) (l := l) H hS wS hl 1) (fun r10 h10 q10 => ?_)
  obtain ⟨rfl, e10⟩ := q10
  obtain rfl := e10.symm
  refine ju_calls (pc := 13) (as := [_]) d12092_13 jL_12_503 jM_Mo_bits rfl rfl (by exact Nat.le_of_ble_eq_true rfl) (t_Mo_bits (d + 1) (z := onN S l 1 S.1.2.1) (by omega)) (fun r13 h13 q13 => ?_)
  obtain ⟨rfl, e13⟩ := q13
  obtain rfl := e13.symm
  refine ju_eqi (v := nI (pop 10 (onN S l 1 S.1.2.1))) (by rw [pop_16 o1]) ?_
  refine je_isub (pc := 16) d12092_16 ?_
  refine ju_eqi (v := iZ (lfZ S l)) (iZ_sub (by omega) (by omega)) ?_
  refine je_iret (pc := 17) d12092_17 rfl ?_
  exact ⟨rfl, rfl⟩
set_option maxHeartbeats 2000000 in
theorem t_Mo_isBetter (d : Nat) {bc bs : Nat} {h : jx_H} {q : Nat} (hq : q < 1000) (u v : Int32) : jx_Tr (d + 1) bc bs 12095 [.int u, .int v, .int (nI q)] h (fun r h' => r = some (.int (b2 (v = 1000 ∨ (if q % 2 = 0 then v < u else u < v)))) ∧ h' = h) := by
  refine jx_tr jM_Mo_isBetter rfl rfl (lv := [some (.int u), some (.int v), some (.int (nI q))]) rfl ?_
  refine je_iload1 (pc := 0) d12095_0 rfl ?_
  refine je_sipush (pc := 1) (v := 1000) d12095_1 rfl ?_
  refine ju_tern2 (pc := 4) (V := b2 (v = 1000 ∨ (if q % 2 = 0 then v < u else u < v))) 31 ?_ (fun jn4 => ?_)
  · refine je_zret (pc := 31) d12095_31 rfl (b2_01 _) ?_
    exact ⟨rfl, rfl⟩
  · refine je_iceq (pc := 4) 26 d12095_4 (by decide) (fun c4 => ?_) (fun c4 => ?_)
    · refine je_iconst (pc := 26) (v := 1) d12095_26 rfl ?_
      refine je_goto (pc := 27) 31 d12095_27 (by decide) ?_
      refine ju_eqi (v := b2 (v = 1000 ∨ (if q % 2 = 0 then v < u else u < v))) (b2_t (Or.inl c4)).symm ?_
      exact jn4
    · refine je_iload2 (pc := 7) d12095_7 rfl ?_
      refine je_iconst (pc := 8) (v := 2) d12095_8 rfl ?_
      refine je_irem (pc := 9) d12095_9 (by decide) ?_
      refine ju_eqi (v := nI (q % 2)) (pk_rem (d := 2) (by omega) (by decide) (by decide)) ?_
      refine jn_ifne (pc := 10) (a := (q % 2)) 21 d12095_10 (by decide) (by omega) (fun c10 => ?_) (fun c10 => ?_)
      · refine je_iload0 (pc := 21) d12095_21 rfl ?_
        refine je_iload1 (pc := 22) d12095_22 rfl ?_
        refine ju_icge (pc := 23) 30 d12095_23 (by decide) (fun c23 => ?_) (fun c23 => ?_)
        · refine je_iconst (pc := 30) (v := 0) d12095_30 rfl ?_
          refine ju_eqi (v := b2 (v = 1000 ∨ (if q % 2 = 0 then v < u else u < v))) (b2_f (fun z => z.elim c4 (fun y => by rw [if_neg (by omega)] at y; exact c23 y))).symm ?_
          exact jn4
        · refine je_iconst (pc := 26) (v := 1) d12095_26 rfl ?_
          refine je_goto (pc := 27) 31 d12095_27 (by decide) ?_
          refine ju_eqi (v := b2 (v = 1000 ∨ (if q % 2 = 0 then v < u else u < v))) (b2_t (Or.inr (by rw [if_neg (by omega)]; exact c23))).symm ?_
          exact jn4
      · refine je_iload0 (pc := 13) d12095_13 rfl ?_
        refine je_iload1 (pc := 14) d12095_14 rfl ?_
        refine ju_icle (pc := 15) 30 d12095_15 (by decide) (fun c15 => ?_) (fun c15 => ?_)
        · refine je_iconst (pc := 30) (v := 0) d12095_30 rfl ?_
          refine ju_eqi (v := b2 (v = 1000 ∨ (if q % 2 = 0 then v < u else u < v))) (b2_f (fun z => z.elim c4 (fun y => by rw [if_pos (by omega)] at y; exact c15 y))).symm ?_
          exact jn4
        · refine je_goto (pc := 18) 26 d12095_18 (by decide) ?_
          refine je_iconst (pc := 26) (v := 1) d12095_26 rfl ?_
          refine je_goto (pc := 27) 31 d12095_27 (by decide) ?_
          refine ju_eqi (v := b2 (v = 1000 ∨ (if q % 2 = 0 then v < u else u < v))) (b2_t (Or.inr (by rw [if_pos (by omega)]; exact c15))).symm ?_
          exact jn4
set_option maxHeartbeats 2000000 in
theorem t_Mo_takesWorth (d : Nat) {bc bs : Nat} {h : jx_H} {q : Nat} (H : jx_St h) (hq : q < 4) (u : Int32) : jx_Tr (d + 2) bc bs 12094 [.ref 253, .int (nI q), .int u] h (fun r h' => r = none ∧ h' = if (h.2.1 298 q = 1000 ∨ (if q % 2 = 0 then h.2.1 298 q < u else u < h.2.1 298 q)) then jx_wI (jx_wI h 298 q u) 253 59 (if q = 0 then h.2.1 297 0 else h.2.1 253 59) else h) := by
  refine jx_tr jM_Mo_takesWorth rfl rfl (lv := [some (.ref 253), some (.int (nI q)), some (.int u)]) rfl ?_
  refine je_iload2 (pc := 0) d12094_0 rfl ?_
  refine je_aload0 (pc := 1) d12094_1 rfl ?_
  refine ju_getr (pc := 2) (b := 298) d12094_2 jF_12_148 rfl (sK253 H) (sR253_58 H) ?_
  refine je_iload1 (pc := 5) d12094_5 rfl ?_
  refine ju_iald (pc := 6) (jn := (q)) d12094_6 (sK298 H) (vp_in_nI (by omega) (by decide)) (nI_clamp (by omega)) ?_
  refine je_iload1 (pc := 7) d12094_7 rfl ?_
  refine ju_calls (pc := 8) (as := [_, _, _]) d12094_8 jL_12_524 jM_Mo_isBetter rfl rfl (by exact Nat.le_of_ble_eq_true rfl) (t_Mo_isBetter (d + 0) (by omega) _ _) (fun r8 h8 q8 => ?_)
  obtain ⟨rfl, e8⟩ := q8
  obtain rfl := e8.symm
  refine jb_ifeq (pc := 11) 42 d12094_11 (by decide) (fun c11 => ?_) (fun c11 => ?_)
  · refine je_ret (pc := 42) d12094_42 rfl ?_
    exact ⟨rfl, by rw [if_neg c11]⟩
  · refine je_aload0 (pc := 14) d12094_14 rfl ?_
    refine ju_getr (pc := 15) (b := 298) d12094_15 jF_12_148 rfl (sK253 H) (sR253_58 H) ?_
    refine je_iload1 (pc := 18) d12094_18 rfl ?_
    refine je_iload2 (pc := 19) d12094_19 rfl ?_
    refine ju_iast (pc := 20) (jn := (q)) d12094_20 (sK298 H) (vp_in_nI (by omega) (by decide)) (nI_clamp (by omega)) ?_
    refine je_aload0 (pc := 21) d12094_21 rfl ?_
    refine je_iload1 (pc := 22) d12094_22 rfl ?_
    refine ju_tern1 (pc := 23) (V := (if q = 0 then h.2.1 297 0 else h.2.1 253 59)) 39 ?_ (fun jn23 => ?_)
    · refine ju_puti (pc := 39) d12094_39 jF_12_509 rfl (sK253 H.wI) ?_
      refine je_ret (pc := 42) d12094_42 rfl ?_
      exact ⟨rfl, by rw [if_pos c11]⟩
    · refine jn_ifne (pc := 23) (a := (q)) 35 d12094_23 (by decide) (by omega) (fun c23 => ?_) (fun c23 => ?_)
      · refine je_aload0 (pc := 35) d12094_35 rfl ?_
        refine ju_geti (pc := 36) d12094_36 jF_12_509 rfl (sK253 H.wI) ?_
        refine ju_eqi (v := (if q = 0 then h.2.1 297 0 else h.2.1 253 59)) (by rw [if_neg c23]; rfl) ?_
        exact jn23
      · refine je_aload0 (pc := 26) d12094_26 rfl ?_
        refine ju_getr (pc := 27) (b := 297) d12094_27 jF_12_145 rfl (sK253 H.wI) (sR253_57 H.wI) ?_
        refine je_iconst (pc := 30) (v := 0) d12094_30 rfl ?_
        refine ju_iald (pc := 31) (jn := 0) d12094_31 (sK297 H.wI) (by first | assumption | exact jx_ok_dec (by decide)) (by decide) ?_
        refine je_goto (pc := 32) 39 d12094_32 (by decide) ?_
        refine ju_eqi (v := (if q = 0 then h.2.1 297 0 else h.2.1 253 59)) (by rw [if_pos c23]; rfl) ?_
        exact jn23
set_option maxHeartbeats 2000000 in
theorem t_Mo_goesDuke (d : Nat) {bc bs : Nat} {h : jx_H} {g0 : jx_H} {S : MS} {R : Option MR} {L : ML} {nn q c : Nat} (H : jx_St g0) (C : mLaw g0 S R) (wS : wfS S) (h0 : 0 < S.1.1) (hmi : S.1.1 ≤ 10) (k0 : mLk g0 h L) (hN : L.2.2.2.2.2 = nI nn) (hn : nn < 998) (hq : q < 4) (hc : c < S.1.1 + 1) (ht : h.2.1 297 q = chV c) : jx_Tr (d + 8) bc bs 12096 [.ref 253, .int (nI q)] h (fun r h' => r = none ∧ mLk g0 h' (nxF S R (if c = 0 then L else mvL (c - 1) (if q % 2 = 0 then (1 : Int32) else -1) L)) ∧ (∀ b, 296 ≤ b → b ≤ 298 → h'.2.1 b = h.2.1 b) ∧ h'.2.1 253 = h.2.1 253) := by
  refine jx_tr jM_Mo_goesDuke rfl rfl (lv := [some (.ref 253), some (.int (nI q))]) rfl ?_
  have H1 := k0.St H
  refine je_aload0 (pc := 0) d12096_0 rfl ?_
  refine ju_getr (pc := 1) (b := 297) d12096_1 jF_12_145 rfl (sK253 H1) (sR253_57 H1) ?_
  refine je_iload1 (pc := 4) d12096_4 rfl ?_
  refine ju_iald (pc := 5) (jn := (q)) d12096_5 (sK297 H1) (vp_in_nI (by omega) (by decide)) (nI_clamp (by omega)) ?_
  refine ju_eqi (v := chV c) ht ?_
  refine je_iconst (pc := 6) (v := -1) d12096_6 rfl ?_
  refine je_iceq (pc := 7) 31 d12096_7 (by decide) (fun c7 => ?_) (fun c7 => ?_)
  · refine je_aload0 (pc := 31) d12096_31 rfl ?_
    refine ju_callv (pc := 32) (as := []) d12096_32 jL_12_439 jM_Mo_goesNight rfl (by decide) (sK253 H1) rfl (by exact Nat.le_of_ble_eq_true rfl) (t_Mo_goesNight d H1 (k0.law C) wS h0 hmi k0.2.2.2 hN (by omega)) (fun r32 h32 q32 => ?_)
    obtain ⟨rfl, f1, f2⟩ := q32
    refine je_pop (pc := 35) d12096_35 rfl ?_
    refine je_ret (pc := 36) d12096_36 rfl ?_
    have z : c = 0 := (chV_0 (by omega)).mp c7
    rw [if_pos z]
    exact ⟨rfl, k0.N f1 f2, fun b h1 h2 => f1.1.2 b (by omega), f1.1.2 253 (by omega)⟩
  · refine je_aload0 (pc := 10) d12096_10 rfl ?_
    refine je_aload0 (pc := 11) d12096_11 rfl ?_
    refine ju_getr (pc := 12) (b := 297) d12096_12 jF_12_145 rfl (sK253 H1) (sR253_57 H1) ?_
    refine je_iload1 (pc := 15) d12096_15 rfl ?_
    refine ju_iald (pc := 16) (jn := (q)) d12096_16 (sK297 H1) (vp_in_nI (by omega) (by decide)) (nI_clamp (by omega)) ?_
    refine ju_eqi (v := nI (c - 1)) (ht.trans (chV_n (fun z => c7 (by rw [z]; rfl)))) ?_
    refine je_iload1 (pc := 17) d12096_17 rfl ?_
    refine je_iconst (pc := 18) (v := 2) d12096_18 rfl ?_
    refine je_irem (pc := 19) d12096_19 (by decide) ?_
    refine ju_eqi (v := nI (q % 2)) (pk_rem (d := 2) (by omega) (by decide) (by decide)) ?_
    refine ju_tern1 (pc := 20) (V := (if q % 2 = 0 then (1 : Int32) else -1)) 28 ?_ (fun jn20 => ?_)
    · refine ju_callv (pc := 28) (as := [_, _]) d12096_28 jL_12_470 jM_Mo_pushes rfl (by decide) (sK253 H1) rfl (by exact Nat.le_of_ble_eq_true rfl) (t_Mo_pushes (d + 5) (m := c - 1) H1 (by omega) _) (fun r28 h28 q28 => ?_)
      obtain ⟨rfl, e28⟩ := q28
      rw [(k0.2.2.2.1 (c - 1) (by omega)).1] at e28
      obtain rfl := e28.symm
      have k2 : mLk g0 (jx_wI h 255 (c - 1) (mhold (L.1 (c - 1) + (if q % 2 = 0 then (1 : Int32) else -1)) (-20) 20)) (mvL (c - 1) (if q % 2 = 0 then (1 : Int32) else -1) L) := k0.fr ((fC.rf (A := fun b => b = 255)).wI rfl) (fun b hb => by omega) (fun j _ => by rw [wI_ne _ _ _ (by decide)]) k0.2.2.2.w1
      have H2 := k2.St H
      refine je_aload0 (pc := 31) d12096_31 rfl ?_
      refine ju_callv (pc := 32) (as := []) d12096_32 jL_12_439 jM_Mo_goesNight rfl (by decide) (sK253 H2) rfl (by exact Nat.le_of_ble_eq_true rfl) (t_Mo_goesNight d H2 (k2.law C) wS h0 hmi k2.2.2.2 (nn := nn) hN (by omega)) (fun r32 h32 q32 => ?_)
      obtain ⟨rfl, f1, f2⟩ := q32
      refine je_pop (pc := 35) d12096_35 rfl ?_
      refine je_ret (pc := 36) d12096_36 rfl ?_
      have z : ¬ c = 0 := fun z => c7 (by rw [z]; rfl)
      rw [if_neg z]
      exact ⟨rfl, k2.N f1 f2, fun b h1 h2 => by rw [f1.1.2 b (by omega), wI_ne _ _ _ (by omega)], by rw [f1.1.2 253 (by omega), wI_ne _ _ _ (by decide)]⟩
    · refine jn_ifne (pc := 20) (a := (q % 2)) 27 d12096_20 (by decide) (by omega) (fun c20 => ?_) (fun c20 => ?_)
      · refine je_iconst (pc := 27) (v := -1) d12096_27 rfl ?_
        refine ju_eqi (v := (if q % 2 = 0 then (1 : Int32) else -1)) (by rw [if_neg c20]) ?_
        exact jn20
      · refine je_iconst (pc := 23) (v := 1) d12096_23 rfl ?_
        refine je_goto (pc := 24) 28 d12096_24 (by decide) ?_
        refine ju_eqi (v := (if q % 2 = 0 then (1 : Int32) else -1)) (by rw [if_pos c20]) ?_
        exact jn20
set_option maxHeartbeats 2000000 in
theorem t_Mo_opensDuke (d : Nat) {bc bs : Nat} {h : jx_H} {q n : Nat} {L : ML} (H : jx_St h) (hq : q < 4) (hqn : q < n) (hn : n ≤ 4) (hL : mLa h.2.1 L) : jx_Tr (d + 2) bc bs 12097 [.ref 253, .int (nI q), .int (nI n)] h (fun r h' => r = none ∧ fC (fun b => 296 ≤ b ∧ b ≤ 298) h h' ∧ dSv h' q L ∧ (∀ i, i < 21 * q → h'.2.1 296 i = h.2.1 296 i) ∧ h'.2.1 297 q = -2 ∧ h'.2.1 298 q = 1000 ∧ ∀ j, j ≠ q → h'.2.1 297 j = h.2.1 297 j ∧ h'.2.1 298 j = h.2.1 298 j) := by
  refine jx_tr jM_Mo_opensDuke rfl rfl (lv := [some (.ref 253), some (.int (nI q)), some (.int (nI n))]) rfl ?_
  refine je_iload1 (pc := 0) d12097_0 rfl ?_
  refine je_iload2 (pc := 1) d12097_1 rfl ?_
  refine jn_icge (pc := 2) (a := (q)) (b := (n)) 28 d12097_2 (by decide) (by omega) (by omega) (fun c2 => by exfalso; omega) (fun c2 => ?_)
  refine je_aload0 (pc := 5) d12097_5 rfl ?_
  refine je_iload1 (pc := 6) d12097_6 rfl ?_
  refine je_iconst (pc := 7) (v := 0) d12097_7 rfl ?_
  refine ju_callv (pc := 8) (as := [_, _]) d12097_8 jL_12_506 jM_Mo_movesDuke rfl (by decide) (sK253 H) rfl (by exact Nat.le_of_ble_eq_true rfl) (t_Mo_movesDuke d (q := q) H hq hL) (fun r8 h8 q8 => ?_)
  obtain ⟨rfl, f1, f2, f3⟩ := q8
  have H1 := f1.St H
  refine je_aload0 (pc := 11) d12097_11 rfl ?_
  refine ju_getr (pc := 12) (b := 297) d12097_12 jF_12_145 rfl (sK253 H1) (sR253_57 H1) ?_
  refine je_iload1 (pc := 15) d12097_15 rfl ?_
  refine je_bipush (pc := 16) (v := -2) d12097_16 rfl ?_
  refine ju_iast (pc := 18) (jn := (q)) d12097_18 (sK297 H1) (vp_in_nI (by omega) (by decide)) (nI_clamp (by omega)) ?_
  refine je_aload0 (pc := 19) d12097_19 rfl ?_
  refine ju_getr (pc := 20) (b := 298) d12097_20 jF_12_148 rfl (sK253 H1.wI) (sR253_58 H1.wI) ?_
  refine je_iload1 (pc := 23) d12097_23 rfl ?_
  refine je_sipush (pc := 24) (v := 1000) d12097_24 rfl ?_
  refine ju_iast (pc := 27) (jn := (q)) d12097_27 (sK298 H1.wI) (vp_in_nI (by omega) (by decide)) (nI_clamp (by omega)) ?_
  refine je_ret (pc := 28) d12097_28 rfl ?_
  refine ⟨rfl, ((f1.mo (fun b hb => by omega)).wI (by omega)).wI (by omega), ?_, fun i hi => ?_, ?_, ?_, fun j hj => ?_⟩
  · unfold dSv
    rw [wI_ne _ _ _ (by decide), wI_ne _ _ _ (by decide)]
    exact f2
  · rw [wI_ne _ _ _ (by decide), wI_ne _ _ _ (by decide)]; exact f3 i hi
  · rw [wI_ne _ _ _ (by decide), wI_at, jx_up_self]
  · rw [wI_at, jx_up_self]
  · rw [wI_ne _ _ _ (by decide), wI_at, jx_up_ne _ _ hj, wI_at, jx_up_ne _ _ hj, f1.2 297 (by omega), wI_ne _ _ _ (by decide), f1.2 298 (by omega)]
    exact ⟨rfl, rfl⟩
set_option maxHeartbeats 2000000 in
theorem t_Mo_opensDuke_n (d : Nat) {bc bs : Nat} {h : jx_H} {q n : Nat} (H : jx_St h) (hqn : n ≤ q) (hq : q ≤ 4) : jx_Tr (d + 2) bc bs 12097 [.ref 253, .int (nI q), .int (nI n)] h (fun r h' => r = none ∧ h' = h) := by
  refine jx_tr jM_Mo_opensDuke rfl rfl (lv := [some (.ref 253), some (.int (nI q)), some (.int (nI n))]) rfl ?_
  refine je_iload1 (pc := 0) d12097_0 rfl ?_
  refine je_iload2 (pc := 1) d12097_1 rfl ?_
  refine jn_icge (pc := 2) (a := (q)) (b := (n)) 28 d12097_2 (by decide) (by omega) (by omega) (fun c2 => ?_) (fun c2 => by exfalso; omega)
  refine je_ret (pc := 28) d12097_28 rfl ?_
  exact ⟨rfl, rfl⟩
