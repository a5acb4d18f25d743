/-! dukes: the machine -/
theorem DV.tc {hs h h' : jx_H} {S : MS} {R : Option MR} {rem g c : Nat} {e : Bool} {L : ML} {tr tr' : Int32} (q : DV hs S R rem e L g c tr h) (e6 : h'.2.1 296 = h.2.1 296) (e7 : ∀ j, j ≠ g → h'.2.1 297 j = h.2.1 297 j) (et : h'.2.1 297 g = tr') (e8 : h'.2.1 298 = h.2.1 298) (e9 : h'.2.1 253 = h.2.1 253) : DV hs S R rem e L g c tr' h' := by
  obtain ⟨q1, q2, q3, q4, q5⟩ := q
  refine ⟨q1.tr ⟨fun j hj => ⟨e7 j (by omega), by rw [e8]⟩, fun i _ => by rw [e6], fun _ => by rw [e9]⟩, ?_, et, ?_, fun a b => ?_⟩
  · unfold dSv at q2 ⊢; rw [e6]; exact q2
  · rw [e8]; exact q4
  · rw [e9]; exact q5 a b
theorem samL.tr {A B D : ML} (a : samL A B) (b : samL B D) : samL A D := ⟨b.1.trans a.1, b.2.trans a.2⟩
theorem dk_sam (S : MS) (R : Option MR) (x : Int32) (L : ML) (c : Nat) : samL L (dkL S R x L c) := by
  unfold dkL
  split <;> exact ⟨rfl, rfl⟩
theorem wc_sam (cr : Nat → Int32) (L : ML) : samL L (wcL cr L) := ⟨rfl, rfl⟩
theorem dk_wc (S : MS) (R : Option MR) (cr : Nat → Int32) (x : Int32) (L : ML) (c : Nat) : ∃ cr', nxF S R (if c = 0 then wcL cr L else mvL (c - 1) x (wcL cr L)) = wcL cr' (dkL S R x L c) := by
  unfold dkL
  by_cases z : c = 0
  · rw [if_pos z, if_pos z]; exact ⟨_, nx_wc ..⟩
  · rw [if_neg z, if_neg z, mv_wc]; exact ⟨_, nx_wc ..⟩
theorem dk_n {S : MS} {R : Option MR} {x : Int32} {L : ML} {c nn : Nat} (h : L.2.2.2.2.2 = nI nn) : (dkL S R x L c).2.2.2.2.2 = nI (nn + 1) := by
  unfold dkL
  split
  · show L.2.2.2.2.2 + 1 = _; rw [h, nI_1]
  · show L.2.2.2.2.2 + 1 = _; rw [h, nI_1]
abbrev dLv (n g : Nat) : List (Option Value) := [some (.ref 253), some (.int (nI n)), some (.int (nI g))]
def P34 (g0 hs : jx_H) (S : MS) (R : Option MR) (rem : Nat) (e : Bool) (L : ML) (g c : Nat) (h : jx_H) : Prop := DV hs S R rem e L g c (tvI c) h ∧ ∃ L', mLk g0 h L' ∧ samL L L'
def P74 (g0 hs : jx_H) (S : MS) (R : Option MR) (rem : Nat) (e : Bool) (L : ML) (g c : Nat) (h : jx_H) : Prop := DV hs S R rem e L g c (chV c) h ∧ ∃ cr, mLk g0 h (wcL cr L)
set_option maxHeartbeats 4000000 in
theorem mo_dkA {g0 hs : jx_H} {S : MS} {R : Option MR} {n d bc bs : Nat} {Q : Option Value → jx_H → Prop} (H : jx_St g0) (C : mLaw g0 S R) (wS : wfS S) (h0 : 0 < S.1.1) (hmi : S.1.1 ≤ 10) (hn4 : n ≤ 4) {rem g c : Nat} {e : Bool} {L : ML} {h : jx_H} (hg : g < n) (hc : c < 1000) (k : ∀ h, P74 g0 hs S R rem e L g c h → jx_Ev (d + 9) bc bs 12090 74 (dLv n g) [] h Q) (q : P34 g0 hs S R rem e L g c h) : jx_Ev (d + 9) bc bs 12090 34 (dLv n g) [] h Q := by
  obtain ⟨v, L', k0, s1, s2⟩ := q
  have H1 := k0.St H
  obtain ⟨v1, v2, v3, v4, v5⟩ := id v
  refine je_iload2 (pc := 34) d12090_34 rfl ?_
  refine jn_iflt (pc := 35) (a := (g)) 179 d12090_35 (by decide) (by omega) (fun c35 => by exfalso; omega) (fun c35 => ?_)
  refine je_iload2 (pc := 38) d12090_38 rfl ?_
  refine je_iload1 (pc := 39) d12090_39 rfl ?_
  refine jn_icne (pc := 40) (a := (g)) (b := (n)) 58 d12090_40 (by decide) (by omega) (by omega) (fun c40 => ?_) (fun c40 => by exfalso; omega)
  refine je_aload0 (pc := 58) d12090_58 rfl ?_
  refine je_iload2 (pc := 59) d12090_59 rfl ?_
  refine je_iconst (pc := 60) (v := 1) d12090_60 rfl ?_
  refine ju_callv (pc := 61) (as := [_, _]) d12090_61 jL_12_506 jM_Mo_movesDuke rfl (by decide) (sK253 H1) rfl (by exact Nat.le_of_ble_eq_true rfl) (t_Mo_movesDuke_b (d + 7) (q := g) H1 (by omega) v2 k0.2.2.2 s1 s2) (fun r61 h61 q61 => ?_)
  obtain ⟨rfl, f1, f2, f3⟩ := q61
  have H2 := f1.St H1
  refine je_aload0 (pc := 64) d12090_64 rfl ?_
  refine ju_getr (pc := 65) (b := 297) d12090_65 jF_12_145 rfl (sK253 H2) (sR253_57 H2) ?_
  refine je_iload2 (pc := 68) d12090_68 rfl ?_
  refine je_dup2 (pc := 69) d12090_69 rfl rfl ?_
  refine ju_iald (pc := 70) (jn := (g)) d12090_70 (sK297 H2) (vp_in_nI (by omega) (by decide)) (nI_clamp (by omega)) ?_
  refine je_iconst (pc := 71) (v := 1) d12090_71 rfl ?_
  refine je_iadd (pc := 72) d12090_72 ?_
  refine ju_eqi (v := chV c) (by rw [f1.2 297 (by omega), v3]; exact tv_s hc) ?_
  refine ju_iast (pc := 73) (jn := (g)) d12090_73 (sK297 H2) (vp_in_nI (by omega) (by decide)) (nI_clamp (by omega)) ?_
  refine k _ ⟨?_, L'.2.2.2.1, ?_⟩
  · refine v.tc ?_ (fun j hj => ?_) ?_ ?_ ?_
    · rw [wI_ne _ _ _ (by decide), f1.2 296 (by omega)]
    · rw [wI_at, jx_up_ne _ _ hj, f1.2 297 (by omega)]
    · rw [wI_at, jx_up_self]
    · rw [wI_ne _ _ _ (by decide), f1.2 298 (by omega)]
    · rw [wI_ne _ _ _ (by decide), f1.2 253 (by omega)]
  · have k1 : mLk g0 h61 (wcL L'.2.2.2.1 L) := k0.fr f1 (fun b hb => by omega) (fun j hj => f2 j (by omega)) f3
    exact k1.lo (A := fun b => b = 297) (fC.rf.wI rfl) (fun b hb => by omega)
set_option maxHeartbeats 4000000 in
theorem mo_dkB {g0 hs : jx_H} {S : MS} {R : Option MR} {n d bc bs : Nat} {Q : Option Value → jx_H → Prop} (H : jx_St g0) (C : mLaw g0 S R) (wS : wfS S) (h0 : 0 < S.1.1) (hmi : S.1.1 ≤ 10) (hn4 : n ≤ 4) {rem g c : Nat} {e : Bool} {L : ML} {h : jx_H} (hg : g < n) (hc : c ≤ S.1.1 + 1) (D : ∀ (c : Nat) (h : jx_H), c ≤ S.1.1 → okC_ L c = true → P74 g0 hs S R rem e L g c h → (∀ h, P34 g0 hs S R rem e L g (c + 1) h → jx_Ev (d + 9) bc bs 12090 34 (dLv n g) [] h Q) → jx_Ev (d + 9) bc bs 12090 162 (dLv n g) [] h Q) (K : ∀ h, P74 g0 hs S R rem e L g (S.1.1 + 1) h → jx_Ev (d + 9) bc bs 12090 139 (dLv n g) [] h Q) (n74 : ∀ h, c + 1 ≤ S.1.1 + 1 → P74 g0 hs S R rem e L g (c + 1) h → jx_Ev (d + 9) bc bs 12090 74 (dLv n g) [] h Q) (n34 : ∀ h, c + 1 ≤ S.1.1 + 1 → P34 g0 hs S R rem e L g (c + 1) h → jx_Ev (d + 9) bc bs 12090 34 (dLv n g) [] h Q) (q : P74 g0 hs S R rem e L g c h) : jx_Ev (d + 9) bc bs 12090 74 (dLv n g) [] h Q := by
  obtain ⟨v, cr, k0⟩ := id q
  have H1 := k0.St H
  obtain ⟨v1, v2, v3, v4, v5⟩ := id v
  by_cases z : c = 0
  · subst z
    refine je_aload0 (pc := 74) d12090_74 rfl ?_
    refine ju_getr (pc := 75) (b := 297) d12090_75 jF_12_145 rfl (sK253 H1) (sR253_57 H1) ?_
    refine je_iload2 (pc := 78) d12090_78 rfl ?_
    refine ju_iald (pc := 79) (jn := (g)) d12090_79 (sK297 H1) (vp_in_nI (by omega) (by decide)) (nI_clamp (by omega)) ?_
    refine ju_eqi (v := -1) v3 ?_
    refine je_iflt (pc := 80) 124 d12090_80 (by decide) (fun c80 => ?_) (fun c80 => absurd c80 (fun z => z (by decide)))
    refine je_aload0 (pc := 124) d12090_124 rfl ?_
    refine ju_getr (pc := 125) (b := 297) d12090_125 jF_12_145 rfl (sK253 H1) (sR253_57 H1) ?_
    refine je_iload2 (pc := 128) d12090_128 rfl ?_
    refine ju_iald (pc := 129) (jn := (g)) d12090_129 (sK297 H1) (vp_in_nI (by omega) (by decide)) (nI_clamp (by omega)) ?_
    refine ju_eqi (v := -1) v3 ?_
    refine je_aload0 (pc := 130) d12090_130 rfl ?_
    refine ju_getr (pc := 131) (b := 254) d12090_131 jF_12_9 rfl (sK253 H1) (sR253_1 H1) ?_
    refine je_iconst (pc := 134) (v := 0) d12090_134 rfl ?_
    refine ju_iald (pc := 135) (jn := 0) d12090_135 (sK254 H1) (by first | assumption | exact jx_ok_dec (by decide)) (by decide) ?_
    refine ju_eqi (v := nI S.1.1) (k0.law C).1.1.1 ?_
    refine je_iclt (pc := 136) 162 d12090_136 (by decide) (fun c136 => ?_) (fun c136 => absurd c136 (fun z => z ((chV_lt (k := 0) (by omega) (by omega)).mpr trivial)))
    exact D 0 _ (by omega) (decide_eq_true (Or.inl rfl)) q (fun h y => n34 h (by omega) y)
  · obtain ⟨u, rfl⟩ : ∃ u, c = u + 1 := ⟨c - 1, by omega⟩
    by_cases z2 : u = S.1.1
    · subst z2
      refine je_aload0 (pc := 74) d12090_74 rfl ?_
      refine ju_getr (pc := 75) (b := 297) d12090_75 jF_12_145 rfl (sK253 H1) (sR253_57 H1) ?_
      refine je_iload2 (pc := 78) d12090_78 rfl ?_
      refine ju_iald (pc := 79) (jn := (g)) d12090_79 (sK297 H1) (vp_in_nI (by omega) (by decide)) (nI_clamp (by omega)) ?_
      refine ju_eqi (v := nI S.1.1) v3 ?_
      refine jn_iflt (pc := 80) (a := (S.1.1)) 124 d12090_80 (by decide) (by omega) (fun c80 => by exfalso; omega) (fun c80 => ?_)
      refine je_aload0 (pc := 83) d12090_83 rfl ?_
      refine ju_getr (pc := 84) (b := 297) d12090_84 jF_12_145 rfl (sK253 H1) (sR253_57 H1) ?_
      refine je_iload2 (pc := 87) d12090_87 rfl ?_
      refine ju_iald (pc := 88) (jn := (g)) d12090_88 (sK297 H1) (vp_in_nI (by omega) (by decide)) (nI_clamp (by omega)) ?_
      refine ju_eqi (v := nI S.1.1) v3 ?_
      refine je_aload0 (pc := 89) d12090_89 rfl ?_
      refine ju_getr (pc := 90) (b := 254) d12090_90 jF_12_9 rfl (sK253 H1) (sR253_1 H1) ?_
      refine je_iconst (pc := 93) (v := 0) d12090_93 rfl ?_
      refine ju_iald (pc := 94) (jn := 0) d12090_94 (sK254 H1) (by first | assumption | exact jx_ok_dec (by decide)) (by decide) ?_
      refine ju_eqi (v := nI S.1.1) (k0.law C).1.1.1 ?_
      refine jn_icge (pc := 95) (a := (S.1.1)) (b := (S.1.1)) 124 d12090_95 (by decide) (by omega) (by omega) (fun c95 => ?_) (fun c95 => by exfalso; omega)
      refine je_aload0 (pc := 124) d12090_124 rfl ?_
      refine ju_getr (pc := 125) (b := 297) d12090_125 jF_12_145 rfl (sK253 H1) (sR253_57 H1) ?_
      refine je_iload2 (pc := 128) d12090_128 rfl ?_
      refine ju_iald (pc := 129) (jn := (g)) d12090_129 (sK297 H1) (vp_in_nI (by omega) (by decide)) (nI_clamp (by omega)) ?_
      refine ju_eqi (v := nI S.1.1) v3 ?_
      refine je_aload0 (pc := 130) d12090_130 rfl ?_
      refine ju_getr (pc := 131) (b := 254) d12090_131 jF_12_9 rfl (sK253 H1) (sR253_1 H1) ?_
      refine je_iconst (pc := 134) (v := 0) d12090_134 rfl ?_
      refine ju_iald (pc := 135) (jn := 0) d12090_135 (sK254 H1) (by first | assumption | exact jx_ok_dec (by decide)) (by decide) ?_
      refine ju_eqi (v := nI S.1.1) (k0.law C).1.1.1 ?_
      refine jn_iclt (pc := 136) (a := (S.1.1)) (b := (S.1.1)) 162 d12090_136 (by decide) (by omega) (by omega) (fun c136 => by exfalso; omega) (fun c136 => ?_)
      exact K _ q
    · refine je_aload0 (pc := 74) d12090_74 rfl ?_
      refine ju_getr (pc := 75) (b := 297) d12090_75 jF_12_145 rfl (sK253 H1) (sR253_57 H1) ?_
      refine je_iload2 (pc := 78) d12090_78 rfl ?_
      refine ju_iald (pc := 79) (jn := (g)) d12090_79 (sK297 H1) (vp_in_nI (by omega) (by decide)) (nI_clamp (by omega)) ?_
      refine ju_eqi (v := nI u) v3 ?_
      refine jn_iflt (pc := 80) (a := (u)) 124 d12090_80 (by decide) (by omega) (fun c80 => by exfalso; omega) (fun c80 => ?_)
      refine je_aload0 (pc := 83) d12090_83 rfl ?_
      refine ju_getr (pc := 84) (b := 297) d12090_84 jF_12_145 rfl (sK253 H1) (sR253_57 H1) ?_
      refine je_iload2 (pc := 87) d12090_87 rfl ?_
      refine ju_iald (pc := 88) (jn := (g)) d12090_88 (sK297 H1) (vp_in_nI (by omega) (by decide)) (nI_clamp (by omega)) ?_
      refine ju_eqi (v := nI u) v3 ?_
      refine je_aload0 (pc := 89) d12090_89 rfl ?_
      refine ju_getr (pc := 90) (b := 254) d12090_90 jF_12_9 rfl (sK253 H1) (sR253_1 H1) ?_
      refine je_iconst (pc := 93) (v := 0) d12090_93 rfl ?_
      refine ju_iald (pc := 94) (jn := 0) d12090_94 (sK254 H1) (by first | assumption | exact jx_ok_dec (by decide)) (by decide) ?_
      refine ju_eqi (v := nI S.1.1) (k0.law C).1.1.1 ?_
      refine jn_icge (pc := 95) (a := (u)) (b := (S.1.1)) 124 d12090_95 (by decide) (by omega) (by omega) (fun c95 => by exfalso; omega) (fun c95 => ?_)
      refine je_aload0 (pc := 98) d12090_98 rfl ?_
      refine je_aload0 (pc := 99) d12090_99 rfl ?_
      refine ju_getr (pc := 100) (b := 297) d12090_100 jF_12_145 rfl (sK253 H1) (sR253_57 H1) ?_
      refine je_iload2 (pc := 103) d12090_103 rfl ?_
      refine ju_iald (pc := 104) (jn := (g)) d12090_104 (sK297 H1) (vp_in_nI (by omega) (by decide)) (nI_clamp (by omega)) ?_
      refine ju_eqi (v := nI u) v3 ?_
      refine ju_callv (pc := 105) (as := [_]) d12090_105 jL_12_182 jM_Mo_isBaked rfl (by decide) (sK253 H1) rfl (by exact Nat.le_of_ble_eq_true rfl) (t_Mo_isBaked (d + 6) H1 _) (fun r105 h105 q105 => ?_)
      obtain ⟨rfl, e105⟩ := q105
      obtain rfl := e105.symm
      refine jb_ifeq (pc := 108) 124 d12090_108 (by decide) (fun c108 => ?_) (fun c108 => ?_)
      · refine je_aload0 (pc := 124) d12090_124 rfl ?_
        refine ju_getr (pc := 125) (b := 297) d12090_125 jF_12_145 rfl (sK253 H1) (sR253_57 H1) ?_
        refine je_iload2 (pc := 128) d12090_128 rfl ?_
        refine ju_iald (pc := 129) (jn := (g)) d12090_129 (sK297 H1) (vp_in_nI (by omega) (by decide)) (nI_clamp (by omega)) ?_
        refine ju_eqi (v := nI u) v3 ?_
        refine je_aload0 (pc := 130) d12090_130 rfl ?_
        refine ju_getr (pc := 131) (b := 254) d12090_131 jF_12_9 rfl (sK253 H1) (sR253_1 H1) ?_
        refine je_iconst (pc := 134) (v := 0) d12090_134 rfl ?_
        refine ju_iald (pc := 135) (jn := 0) d12090_135 (sK254 H1) (by first | assumption | exact jx_ok_dec (by decide)) (by decide) ?_
        refine ju_eqi (v := nI S.1.1) (k0.law C).1.1.1 ?_
        refine jn_iclt (pc := 136) (a := (u)) (b := (S.1.1)) 162 d12090_136 (by decide) (by omega) (by omega) (fun c136 => ?_) (fun c136 => by exfalso; omega)
        exact D (u + 1) _ (by omega) (decide_eq_true (Or.inr (fun y => c108 (by rw [k0.2.2.2.2.2.1]; exact y)))) q (fun h y => n34 h (by omega) y)
      · refine je_aload0 (pc := 111) d12090_111 rfl ?_
        refine ju_getr (pc := 112) (b := 297) d12090_112 jF_12_145 rfl (sK253 H1) (sR253_57 H1) ?_
        refine je_iload2 (pc := 115) d12090_115 rfl ?_
        refine je_dup2 (pc := 116) d12090_116 rfl rfl ?_
        refine ju_iald (pc := 117) (jn := (g)) d12090_117 (sK297 H1) (vp_in_nI (by omega) (by decide)) (nI_clamp (by omega)) ?_
        refine ju_eqi (v := nI u) v3 ?_
        refine je_iconst (pc := 118) (v := 1) d12090_118 rfl ?_
        refine je_iadd (pc := 119) d12090_119 ?_
        refine ju_eqi (v := nI ((u) + 1)) (nI_add (u) 1) ?_
        refine ju_iast (pc := 120) (jn := (g)) d12090_120 (sK297 H1) (vp_in_nI (by omega) (by decide)) (nI_clamp (by omega)) ?_
        refine je_goto (pc := 121) 74 d12090_121 (by decide) ?_
        refine n74 _ (by omega) ⟨?_, cr, k0.lo (A := fun b => b = 297) (fC.rf.wI rfl) (fun b hb => by omega)⟩
        refine v.skip (by omega) (decide_eq_false (fun y => y.elim (by omega) (fun y => y (by rw [k0.2.2.2.2.2.1] at c108; exact c108)))) ?_ (fun j hj => ?_) ?_ ?_ ?_
        · rw [wI_ne _ _ _ (by decide)]
        · rw [wI_at, jx_up_ne _ _ hj]
        · rw [wI_at, jx_up_self]; rfl
        · rw [wI_ne _ _ _ (by decide)]
        · rw [wI_ne _ _ _ (by decide)]
theorem mo_dkl {g0 hs : jx_H} {S : MS} {R : Option MR} {n d bc bs : Nat} {Q : Option Value → jx_H → Prop} (H : jx_St g0) (C : mLaw g0 S R) (wS : wfS S) (h0 : 0 < S.1.1) (hmi : S.1.1 ≤ 10) (hn4 : n ≤ 4) {rem g : Nat} {e : Bool} {L : ML} (hg : g < n) (D : ∀ (c : Nat) (h : jx_H), c ≤ S.1.1 → okC_ L c = true → P74 g0 hs S R rem e L g c h → (∀ h, P34 g0 hs S R rem e L g (c + 1) h → jx_Ev (d + 9) bc bs 12090 34 (dLv n g) [] h Q) → jx_Ev (d + 9) bc bs 12090 162 (dLv n g) [] h Q) (K : ∀ h, P74 g0 hs S R rem e L g (S.1.1 + 1) h → jx_Ev (d + 9) bc bs 12090 139 (dLv n g) [] h Q) : ∀ (t c : Nat), c + t = S.1.1 + 1 → (∀ h, P34 g0 hs S R rem e L g c h → jx_Ev (d + 9) bc bs 12090 34 (dLv n g) [] h Q) ∧ ∀ h, P74 g0 hs S R rem e L g c h → jx_Ev (d + 9) bc bs 12090 74 (dLv n g) [] h Q
  | 0, c, hc => by
    have k : ∀ h, P74 g0 hs S R rem e L g c h → jx_Ev (d + 9) bc bs 12090 74 (dLv n g) [] h Q := fun h q => mo_dkB H C wS h0 hmi hn4 hg (by omega) D K (fun _ z _ => by omega) (fun _ z _ => by omega) q
    exact ⟨fun h q => mo_dkA H C wS h0 hmi hn4 hg (by omega) k q, k⟩
  | t + 1, c, hc => by
    have ih := mo_dkl H C wS h0 hmi hn4 hg D K t (c + 1) (by omega)
    have k : ∀ h, P74 g0 hs S R rem e L g c h → jx_Ev (d + 9) bc bs 12090 74 (dLv n g) [] h Q := fun h q => mo_dkB H C wS h0 hmi hn4 hg (by omega) D K (fun _ _ y => ih.2 _ y) (fun _ _ y => ih.1 _ y) q
    exact ⟨fun h q => mo_dkA H C wS h0 hmi hn4 hg (by omega) k q, k⟩
