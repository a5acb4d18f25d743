/-! dukes -/
theorem mLk.ite {g x y : jx_H} {L : ML} {p : Prop} [Decidable p] (a : mLk g x L) (b : mLk g y L) : mLk g (if p then x else y) L := by
  split
  · exact a
  · exact b
theorem wy_e {g : Nat} {e : Bool} (he : e = decide (g % 2 = 0)) : (if g % 2 = 0 then (1 : Int32) else -1) = wyI e := by
  rw [he]
  unfold wyI
  by_cases z : g % 2 = 0
  · rw [if_pos z, decide_eq_true z]; rfl
  · rw [if_neg z, decide_eq_false z]; rfl
theorem wy_n {g : Nat} {e : Bool} (he : e = decide (g % 2 = 0)) : (!e) = decide ((g + 1) % 2 = 0) := by
  rw [he]
  by_cases z : g % 2 = 0
  · rw [decide_eq_true z, decide_eq_false (by omega)]; rfl
  · rw [decide_eq_false z, decide_eq_true (by omega)]; rfl
set_option maxHeartbeats 16000000 in
theorem mo_dk {g0 : jx_H} {S : MS} {R : Option MR} {n d bc bs : Nat} {Q : Option Value → jx_H → Prop} (H : jx_St g0) (C : mLaw g0 S R) (wS : wfS S) (h0 : 0 < S.1.1) (hmi : S.1.1 ≤ 10) (hn4 : n ≤ 4) : ∀ (rem : Nat) {g nn : Nat} {e : Bool} {L : ML} {h : jx_H}, g + rem + 1 = n → e = decide (g % 2 = 0) → L.2.2.2.2.2 = nI nn → nn + rem < 998 → (∃ L', mLk g0 h L' ∧ samL L L') → dSv h g L → h.2.1 297 g = -2 → h.2.1 298 g = 1000 → (∀ h', (∃ L', mLk g0 h' L' ∧ samL L L') → dFr h h' g → h'.2.1 298 g = iZ (gnF S R (rem + 1) e L) → (g = 0 → h'.2.1 253 59 = chV (raF (fD S R rem e L) (okC_ L) (S.1.1 + 1))) → jx_Ev (d + 9) bc bs 12090 139 (dLv n g) [] h' Q) → jx_Ev (d + 9) bc bs 12090 34 (dLv n g) [] h Q
  | 0, g, nn, e, L, hs, hgn, he, hN, hnn, hk, sv, t2, w1, hK => by
    have D : ∀ (c : Nat) (h : jx_H), c ≤ S.1.1 → okC_ L c = true → P74 g0 hs S R (0) e L g c h → (∀ h, P34 g0 hs S R (0) e L g (c + 1) h → jx_Ev (d + 9) bc bs 12090 34 (dLv n g) [] h Q) → jx_Ev (d + 9) bc bs 12090 162 (dLv n g) [] h Q := by
      intro c h hc ok q n34
      obtain ⟨v, cr, k0⟩ := id q
      have H1 := k0.St H
      have w8 := wS.2.1
      refine je_aload0 (pc := 162) d12090_162 rfl ?_
      refine je_iload2 (pc := 163) d12090_163 rfl ?_
      refine ju_callv (pc := 164) (as := [_]) d12090_164 jL_12_518 jM_Mo_goesDuke rfl (by decide) (sK253 H1) rfl (by exact Nat.le_of_ble_eq_true rfl) (t_Mo_goesDuke d (q := g) (c := c) (nn := nn) H C wS h0 hmi k0 hN (by omega) (by omega) (by omega) v.2.2.1) (fun r164 h164 q164 => ?_)
      obtain ⟨rfl, f1, f2, f3⟩ := q164
      obtain ⟨cr', ec⟩ := dk_wc S R cr (if g % 2 = 0 then (1 : Int32) else -1) L c
      rw [ec, wy_e he] at f1
      have H2 := f1.St H
      have v1 := v.fr (h' := h164) (fun i _ => by rw [f2 296 (by omega) (by omega)]) (fun j _ => by rw [f2 297 (by omega) (by omega), f2 298 (by omega) (by omega)]; exact ⟨rfl, rfl⟩) (by rw [f3])
      refine ju_incN (pc := 167) (v := nI ((g) + 1)) (lv' := [some _, some _, some _]) d12090_167 rfl (nI_1 (g)) rfl ?_
      refine je_aload0 (pc := 170) d12090_170 rfl ?_
      refine je_iload2 (pc := 171) d12090_171 rfl ?_
      refine je_iload1 (pc := 172) d12090_172 rfl ?_
      refine ju_callv (pc := 173) (as := [_, _]) d12090_173 jL_12_521 jM_Mo_opensDuke rfl (by decide) (sK253 H2) rfl (by exact Nat.le_of_ble_eq_true rfl) (t_Mo_opensDuke_n (d + 6) (q := g + 1) H2 (by omega) (by omega)) (fun r173 h173 q173 => ?_)
      obtain ⟨rfl, e173⟩ := q173
      obtain rfl := e173.symm
      refine je_goto (pc := 176) 34 d12090_176 (by decide) ?_
      refine je_iload2 (pc := 34) d12090_34 rfl ?_
      refine jn_iflt (pc := 35) (a := (g + 1)) 179 d12090_35 (by decide) (by omega) (fun c35 => by exfalso; omega) (fun c35 => ?_)
      refine je_iload2 (pc := 38) d12090_38 rfl ?_
      refine je_iload1 (pc := 39) d12090_39 rfl ?_
      refine jn_icne (pc := 40) (a := (g + 1)) (b := (n)) 58 d12090_40 (by decide) (by omega) (by omega) (fun c40 => by exfalso; omega) (fun c40 => ?_)
      refine ju_incN (pc := 43) (v := nI ((g + 1) - 1)) (lv' := [some _, some _, some _]) d12090_43 rfl (nI_m1 (g + 1) (by omega)) rfl ?_
      refine je_aload0 (pc := 46) d12090_46 rfl ?_
      refine je_iload2 (pc := 47) d12090_47 rfl ?_
      refine je_aload0 (pc := 48) d12090_48 rfl ?_
      refine ju_callv (pc := 49) (as := []) d12090_49 jL_12_512 jM_Mo_westLessEast rfl (by decide) (sK253 H2) rfl (by exact Nat.le_of_ble_eq_true rfl) (t_Mo_westLessEast (d + 5) (S := S) (l := (dkL S R (wyI e) L c).1) H2 (f1.law C).1 wS (fun m hm => (f1.2.2.2.1 m hm).1)) (fun r49 h49 q49 => ?_)
      obtain ⟨rfl, e49⟩ := q49
      obtain rfl := e49.symm
      refine ju_callv (pc := 52) (as := [_, _]) d12090_52 jL_12_515 jM_Mo_takesWorth rfl (by decide) (sK253 H2) rfl (by exact Nat.le_of_ble_eq_true rfl) (t_Mo_takesWorth (d + 6) (q := g) H2 (by omega) _) (fun r52 h52 q52 => ?_)
      obtain ⟨rfl, e52⟩ := q52
      refine je_goto (pc := 55) 34 d12090_55 (by decide) ?_
      refine n34 _ ⟨?_, _, ?_, (dk_sam S R (wyI e) L c).tr (wc_sam cr' _)⟩
      · rw [e52]
        exact DV.go w8 he ok v1
      · rw [e52]
        exact mLk.ite (f1.lo (A := fun b => b = 298) (fC.rf.wI rfl) (fun b hb => by omega)).w59 f1
    refine (mo_dkl (hs := hs) (rem := 0) (e := e) (L := L) H C wS h0 hmi hn4 (by omega) D (fun h' q => ?_) (S.1.1 + 1) 0 (by omega)).1 hs ⟨⟨dFr.rf, sv, t2, w1, fun _ z => absurd z (by omega)⟩, hk⟩
    obtain ⟨⟨v1, v2, v3, v4, v5⟩, cr, k⟩ := q
    exact hK h' ⟨_, k, wc_sam cr _⟩ v1 (by rw [v4]; unfold wvI; rw [if_neg (by omega)]; rfl) (fun z => v5 z (by omega))
  | rem + 1, g, nn, e, L, hs, hgn, he, hN, hnn, hk, sv, t2, w1, hK => by
    have D : ∀ (c : Nat) (h : jx_H), c ≤ S.1.1 → okC_ L c = true → P74 g0 hs S R (rem + 1) e L g c h → (∀ h, P34 g0 hs S R (rem + 1) e L g (c + 1) h → jx_Ev (d + 9) bc bs 12090 34 (dLv n g) [] h Q) → jx_Ev (d + 9) bc bs 12090 162 (dLv n g) [] h Q := by
      intro c h hc ok q n34
      obtain ⟨v, cr, k0⟩ := id q
      have H1 := k0.St H
      have w8 := wS.2.1
      refine je_aload0 (pc := 162) d12090_162 rfl ?_
      refine je_iload2 (pc := 163) d12090_163 rfl ?_
      refine ju_callv (pc := 164) (as := [_]) d12090_164 jL_12_518 jM_Mo_goesDuke rfl (by decide) (sK253 H1) rfl (by exact Nat.le_of_ble_eq_true rfl) (t_Mo_goesDuke d (q := g) (c := c) (nn := nn) H C wS h0 hmi k0 hN (by omega) (by omega) (by omega) v.2.2.1) (fun r164 h164 q164 => ?_)
      obtain ⟨rfl, f1, f2, f3⟩ := q164
      obtain ⟨cr', ec⟩ := dk_wc S R cr (if g % 2 = 0 then (1 : Int32) else -1) L c
      rw [ec, wy_e he] at f1
      have H2 := f1.St H
      have v1 := v.fr (h' := h164) (fun i _ => by rw [f2 296 (by omega) (by omega)]) (fun j _ => by rw [f2 297 (by omega) (by omega), f2 298 (by omega) (by omega)]; exact ⟨rfl, rfl⟩) (by rw [f3])
      refine ju_incN (pc := 167) (v := nI ((g) + 1)) (lv' := [some _, some _, some _]) d12090_167 rfl (nI_1 (g)) rfl ?_
      refine je_aload0 (pc := 170) d12090_170 rfl ?_
      refine je_iload2 (pc := 171) d12090_171 rfl ?_
      refine je_iload1 (pc := 172) d12090_172 rfl ?_
      refine ju_callv (pc := 173) (as := [_, _]) d12090_173 jL_12_521 jM_Mo_opensDuke rfl (by decide) (sK253 H2) rfl (by exact Nat.le_of_ble_eq_true rfl) (t_Mo_opensDuke (d + 6) (q := g + 1) H2 (by omega) (by omega) (by omega) f1.2.2.2) (fun r173 h173 q173 => ?_)
      obtain ⟨rfl, o1, o2, o3, o4, o5, o6⟩ := q173
      have f4 := f1.lo o1 (fun b hb => by omega)
      have H3 := f4.St H
      have v2 := v1.fr (h' := h173) (fun i hi => o3 i hi) (fun j hj => o6 j (by omega)) (by rw [o1.2 253 (by omega)])
      refine je_goto (pc := 176) 34 d12090_176 (by decide) ?_
      refine mo_dk H C wS h0 hmi hn4 rem (g := g + 1) (nn := nn + 1) (e := !e) (L := dkL S R (wyI e) L c) (by omega) (wy_n he) (dk_n hN) (by omega) ⟨_, f4, wc_sam cr' _⟩ o2 o4 o5 (fun h' a1 a2 a3 _ => ?_)
      obtain ⟨L', k4, s4⟩ := a1
      have H4 := k4.St H
      have v3 := v2.fr (h' := h') (fun i hi => a2.2.1 i hi) (fun j hj => a2.1 j hj) (a2.2.2 (by omega))
      refine ju_incN (pc := 139) (v := nI ((g + 1) - 1)) (lv' := [some _, some _, some _]) d12090_139 rfl (nI_m1 (g + 1) (by omega)) rfl ?_
      refine je_iload2 (pc := 142) d12090_142 rfl ?_
      refine jn_iflt (pc := 143) (a := ((g + 1) - 1)) 34 d12090_143 (by decide) (by omega) (fun c143 => by exfalso; omega) (fun c143 => ?_)
      refine je_aload0 (pc := 146) d12090_146 rfl ?_
      refine je_iload2 (pc := 147) d12090_147 rfl ?_
      refine je_aload0 (pc := 148) d12090_148 rfl ?_
      refine ju_getr (pc := 149) (b := 298) d12090_149 jF_12_148 rfl (sK253 H4) (sR253_58 H4) ?_
      refine je_iload2 (pc := 152) d12090_152 rfl ?_
      refine je_iconst (pc := 153) (v := 1) d12090_153 rfl ?_
      refine je_iadd (pc := 154) d12090_154 ?_
      refine ju_eqi (v := nI (((g + 1) - 1) + 1)) (nI_add ((g + 1) - 1) 1) ?_
      refine ju_iald (pc := 155) (jn := (((g + 1) - 1) + 1)) d12090_155 (sK298 H4) (vp_in_nI (by omega) (by decide)) (nI_clamp (by omega)) ?_
      refine ju_eqi (v := iZ (gnF S R (rem + 1) (!e) (dkL S R (wyI e) L c))) a3 ?_
      refine ju_callv (pc := 156) (as := [_, _]) d12090_156 jL_12_515 jM_Mo_takesWorth rfl (by decide) (sK253 H4) rfl (by exact Nat.le_of_ble_eq_true rfl) (t_Mo_takesWorth (d + 6) (q := g) H4 (by omega) _) (fun r156 h156 q156 => ?_)
      obtain ⟨rfl, e156⟩ := q156
      refine je_goto (pc := 159) 34 d12090_159 (by decide) ?_
      refine n34 _ ⟨?_, _, ?_, (dk_sam S R (wyI e) L c).tr s4⟩
      · rw [e156]
        exact DV.go w8 he ok v3
      · rw [e156]
        exact mLk.ite (k4.lo (A := fun b => b = 298) (fC.rf.wI rfl) (fun b hb => by omega)).w59 k4
    refine (mo_dkl (hs := hs) (rem := rem + 1) (e := e) (L := L) H C wS h0 hmi hn4 (by omega) D (fun h' q => ?_) (S.1.1 + 1) 0 (by omega)).1 hs ⟨⟨dFr.rf, sv, t2, w1, fun _ z => absurd z (by omega)⟩, hk⟩
    obtain ⟨⟨v1, v2, v3, v4, v5⟩, cr, k⟩ := q
    exact hK h' ⟨_, k, wc_sam cr _⟩ v1 (by rw [v4]; unfold wvI; rw [if_neg (by omega)]; rfl) (fun z => v5 z (by omega))
set_option maxHeartbeats 2000000 in
theorem t_Mo_laysBack_g (d : Nat) {bc bs : Nat} {h : jx_H} {g : jx_H} {L L0 : ML} (H : jx_St h) (k : mLk g h L) (l : mLa g.2.1 L0) : jx_Tr (d + 3) bc bs 12083 [.ref 253] h (fun r h' => r = none ∧ mLk g h' L0 ∧ (∀ j, j < 9 → h'.2.1 254 j = g.2.1 254 j) ∧ fC (fun b => (253 ≤ b ∧ b ≤ 257) ∨ b = 262) h h' ∧ h'.2.1 253 59 = h.2.1 253 59) := by
  refine jx_tr jM_Mo_laysBack rfl rfl (lv := [some (.ref 253)]) rfl ?_
  refine je_aload0 (pc := 0) d12083_0 rfl ?_
  refine je_iconst (pc := 1) (v := 4) d12083_1 rfl ?_
  refine je_iconst (pc := 2) (v := 1) d12083_2 rfl ?_
  refine ju_callv (pc := 3) (as := [_, _]) d12083_3 jL_12_475 jM_Mo_carriesAll rfl (by decide) (sK253 H) rfl (by exact Nat.le_of_ble_eq_true rfl) (t_Mo_carriesAll_4b d (q := 4400) H rfl) (fun r3 h3 q3 => ?_)
  obtain ⟨rfl, f1⟩ := q3
  refine je_ret (pc := 6) d12083_6 rfl ?_
  exact ⟨rfl, (cyB_kpt k l f1).1, (cyB_kpt k l f1).2, cyB_fr f1, f1.2.1 59 (by decide) (by decide) (by decide)⟩
set_option maxHeartbeats 4000000 in
theorem t_Mo_playsDukes (d : Nat) {bc bs : Nat} {h : jx_H} {S : MS} {R : Option MR} {L : ML} {nn : Nat} (H : jx_St h) (C : mLaw h S R) (wS : wfS S) (h0 : 0 < S.1.1) (hmi : S.1.1 ≤ 10) (hL : mLa h.2.1 L) (hN : L.2.2.2.2.2 = nI nn) {n : Nat} (h4 : n + 1 ≤ 4) (hnn : nn + n < 998) : jx_Tr (d + 9) bc bs 12090 [.ref 253, .int (nI (n + 1))] h (fun r h' => r = some (.int (iZ (gnF S R (n + 1) true L))) ∧ mLk h h' L ∧ (∀ j, j < 9 → h'.2.1 254 j = h.2.1 254 j) ∧ h'.2.1 253 59 = chV (raF (fD S R n true L) (okC_ L) (S.1.1 + 1))) := by
  refine jx_tr jM_Mo_playsDukes rfl rfl (lv := [some (.ref 253), some (.int (nI (n + 1))), none]) rfl ?_
  refine je_iconst (pc := 0) (v := 0) d12090_0 rfl ?_
  refine ju_istore2 (pc := 1) (lv' := [some _, some _, some _]) d12090_1 rfl rfl ?_
  refine je_aload0 (pc := 2) d12090_2 rfl ?_
  refine ju_callv (pc := 3) (as := []) d12090_3 jL_12_482 jM_Mo_keepsAll rfl (by decide) (sK253 H) rfl (by exact Nat.le_of_ble_eq_true rfl) (t_Mo_keepsAll (d + 5) H hL) (fun r3 h3 q3 => ?_)
  obtain ⟨rfl, k1, k2⟩ := q3
  have H1 := k1.St H
  have C1 := k1.law C
  refine je_aload0 (pc := 6) d12090_6 rfl ?_
  refine je_iconst (pc := 7) (v := 0) d12090_7 rfl ?_
  refine je_iconst (pc := 8) (v := 0) d12090_8 rfl ?_
  refine ju_callv (pc := 9) (as := [_, _]) d12090_9 jL_12_506 jM_Mo_movesDuke rfl (by decide) (sK253 H1) rfl (by exact Nat.le_of_ble_eq_true rfl) (t_Mo_movesDuke (d + 7) (q := 0) H1 (by omega) k1.2.2.2) (fun r9 h9 q9 => ?_)
  obtain ⟨rfl, f1, f2, f3⟩ := q9
  have f4 := k1.lo f1 (fun b hb => by omega)
  have H2 := f4.St H
  refine je_aload0 (pc := 12) d12090_12 rfl ?_
  refine ju_getr (pc := 13) (b := 297) d12090_13 jF_12_145 rfl (sK253 H2) (sR253_57 H2) ?_
  refine je_iconst (pc := 16) (v := 0) d12090_16 rfl ?_
  refine je_bipush (pc := 17) (v := -2) d12090_17 rfl ?_
  refine ju_iast (pc := 19) (jn := 0) d12090_19 (sK297 H2) (by first | assumption | exact jx_ok_dec (by decide)) (by decide) ?_
  refine je_aload0 (pc := 20) d12090_20 rfl ?_
  refine ju_getr (pc := 21) (b := 298) d12090_21 jF_12_148 rfl (sK253 H2.wI) (sR253_58 H2.wI) ?_
  refine je_iconst (pc := 24) (v := 0) d12090_24 rfl ?_
  refine je_sipush (pc := 25) (v := 1000) d12090_25 rfl ?_
  refine ju_iast (pc := 28) (jn := 0) d12090_28 (sK298 H2.wI) (by first | assumption | exact jx_ok_dec (by decide)) (by decide) ?_
  refine je_aload0 (pc := 29) d12090_29 rfl ?_
  refine je_iconst (pc := 30) (v := -1) d12090_30 rfl ?_
  refine ju_puti (pc := 31) d12090_31 jF_12_509 rfl (sK253 H2.wI.wI) ?_
  refine mo_dk (g0 := h) H C wS h0 hmi h4 n (g := 0) (nn := nn) (e := true) (L := L) (by omega) rfl hN (by omega) ⟨L, ((f4.lo (A := fun b => b = 297 ∨ b = 298) ((fC.rf.wI (Or.inl rfl)).wI (Or.inr rfl)) (fun b hb => by omega)).w59), rfl, rfl⟩ ?_ ?_ ?_ (fun h' a1 a2 a3 a4 => ?_)
  · unfold dSv
    rw [wI_ne _ _ _ (by decide), wI_ne _ _ _ (by decide), wI_ne _ _ _ (by decide)]
    exact f2
  · rw [wI_ne _ _ _ (by decide), wI_ne _ _ _ (by decide), wI_at, jx_up_self]
  · rw [wI_ne _ _ _ (by decide), wI_at, jx_up_self]
  obtain ⟨L', k4, s4⟩ := a1
  have H4 := k4.St H
  refine ju_inc (pc := 139) (y := -1) (lv' := [some _, some _, some _]) d12090_139 rfl rfl rfl ?_
  refine je_iload2 (pc := 142) d12090_142 rfl ?_
  refine je_iflt (pc := 143) 34 d12090_143 (by decide) (fun c143 => ?_) (fun c143 => absurd c143 (fun z => z (by decide)))
  refine je_iload2 (pc := 34) d12090_34 rfl ?_
  refine je_iflt (pc := 35) 179 d12090_35 (by decide) (fun c35 => ?_) (fun c35 => absurd c35 (fun z => z (by decide)))
  refine je_aload0 (pc := 179) d12090_179 rfl ?_
  refine ju_callv (pc := 180) (as := []) d12090_180 jL_12_491 jM_Mo_laysBack rfl (by decide) (sK253 H4) rfl (by exact Nat.le_of_ble_eq_true rfl) (t_Mo_laysBack_g (d + 5) H4 k4 hL) (fun r180 h180 q180 => ?_)
  obtain ⟨rfl, k6, k7, k8, k9⟩ := q180
  have H6 := k6.St H
  refine je_aload0 (pc := 183) d12090_183 rfl ?_
  refine ju_getr (pc := 184) (b := 298) d12090_184 jF_12_148 rfl (sK253 H6) (sR253_58 H6) ?_
  refine je_iconst (pc := 187) (v := 0) d12090_187 rfl ?_
  refine ju_iald (pc := 188) (jn := 0) d12090_188 (sK298 H6) (by first | assumption | exact jx_ok_dec (by decide)) (by decide) ?_
  refine ju_eqi (v := iZ (gnF S R (n + 1) true L)) (by rw [k8.2 298 (by omega)]; exact a3) ?_
  refine je_iret (pc := 189) d12090_189 rfl ?_
  exact ⟨rfl, k6, k7, k9.trans (a4 rfl)⟩
set_option maxHeartbeats 2000000 in
theorem t_Db_dukes_n (d : Nat) {bc bs : Nat} {h : jx_H} {s : Nat} (H : jx_St h) (hr : h.2.2.2 26 0 = some s) (P : jx_Sp h s) (x y : Int32) (G : ¬ (0 < h.2.1 s 0 ∧ ¬ x < 1 ∧ ¬ 4 < x ∧ ¬ y < 0 ∧ ¬ 1 < y)) : jx_Tr (d + 12) bc bs 28 [.ref 1, .int x, .int y] h (fun r h' => r = some (.int (-100)) ∧ h' = h) := by
  refine jx_tr jM_Db_dukes rfl rfl (lv := [some (.ref 1), some (.int x), some (.int y), none]) rfl ?_
  refine je_aload0 (pc := 0) d28_0 rfl ?_
  refine ju_callv (pc := 1) (as := []) d28_1 jL_0_169 jM_Db_hasStrip rfl (by decide) (sK1 H) rfl (by exact Nat.le_of_ble_eq_true rfl) (t_Db_hasStrip (d + 10) H hr P) (fun r1 h1 q1 => ?_)
  obtain ⟨rfl, e1⟩ := q1
  obtain rfl := e1.symm
  refine jb_ifeq (pc := 4) 26 d28_4 (by decide) (fun c4 => ?_) (fun c4 => ?_)
  · refine je_bipush (pc := 26) (v := -100) d28_26 rfl ?_
    refine je_iret (pc := 28) d28_28 rfl ?_
    exact ⟨rfl, rfl⟩
  · refine je_iload1 (pc := 7) d28_7 rfl ?_
    refine je_iconst (pc := 8) (v := 1) d28_8 rfl ?_
    refine je_iclt (pc := 9) 26 d28_9 (by decide) (fun c9 => ?_) (fun c9 => ?_)
    · refine je_bipush (pc := 26) (v := -100) d28_26 rfl ?_
      refine je_iret (pc := 28) d28_28 rfl ?_
      exact ⟨rfl, rfl⟩
    · refine je_iload1 (pc := 12) d28_12 rfl ?_
      refine je_iconst (pc := 13) (v := 4) d28_13 rfl ?_
      refine je_icgt (pc := 14) 26 d28_14 (by decide) (fun c14 => ?_) (fun c14 => ?_)
      · refine je_bipush (pc := 26) (v := -100) d28_26 rfl ?_
        refine je_iret (pc := 28) d28_28 rfl ?_
        exact ⟨rfl, rfl⟩
      · refine je_iload2 (pc := 17) d28_17 rfl ?_
        refine je_iflt (pc := 18) 26 d28_18 (by decide) (fun c18 => ?_) (fun c18 => ?_)
        · refine je_bipush (pc := 26) (v := -100) d28_26 rfl ?_
          refine je_iret (pc := 28) d28_28 rfl ?_
          exact ⟨rfl, rfl⟩
        · refine je_iload2 (pc := 21) d28_21 rfl ?_
          refine je_iconst (pc := 22) (v := 1) d28_22 rfl ?_
          refine ju_icle (pc := 23) 29 d28_23 (by decide) (fun c23 => absurd c23 (fun q => G ⟨c4, c9, c14, c18, q⟩)) (fun c23 => ?_)
          refine je_bipush (pc := 26) (v := -100) d28_26 rfl ?_
          refine je_iret (pc := 28) d28_28 rfl ?_
          exact ⟨rfl, rfl⟩
set_option maxHeartbeats 2000000 in
theorem t_Db_dukes (d : Nat) {bc bs : Nat} {h : jx_H} {S : MS} {R : Option MR} {L : ML} {nn : Nat} (H : jx_St h) (C : cLaw h S R) (wS : wfS S) (h0 : 0 < S.1.1) (hL : rL h.2.1 40 L) (hN : L.2.2.2.2.2 = nI nn) {s : Nat} (hr : h.2.2.2 26 0 = some s) (P : jx_Sp h s) (hS : rS h.2.1 s S) {n y nl : Nat} (hmi : S.1.1 ≤ 10) (h4 : n + 1 ≤ 4) (hy : y ≤ 1) (hnn : nn + (n + 1) < 998) (wl : wfL nl S.1.1 S.1.2.1 L) (hnl : nl + (n + 1) < 2000) : jx_Tr (d + 12) bc bs 28 [.ref 1, .int (nI (n + 1)), .int (nI y)] h (fun r h' => r = some (.int (if y = 0 then iZ (gnF S R (n + 1) true L) else chV (raF (fD S R n true L) (okC_ L) (S.1.1 + 1)))) ∧ fC (fun b => b = 65 ∨ 79 ≤ b ∧ b ≤ 106) h h') := by
  refine jx_tr jM_Db_dukes rfl rfl (lv := [some (.ref 1), some (.int (nI (n + 1))), some (.int (nI y)), none]) rfl ?_
  refine je_aload0 (pc := 0) d28_0 rfl ?_
  refine ju_callv (pc := 1) (as := []) d28_1 jL_0_169 jM_Db_hasStrip rfl (by decide) (sK1 H) rfl (by exact Nat.le_of_ble_eq_true rfl) (t_Db_hasStrip (d + 10) H hr P) (fun r1 h1 q1 => ?_)
  obtain ⟨rfl, e1⟩ := q1
  obtain rfl := e1.symm
  refine jb_ifeq (pc := 4) 26 d28_4 (by decide) (fun c4 => absurd c4 (fun q => q (by rw [hS.1.1]; exact nI_lt (a := 0) h0 (by omega)))) (fun c4 => ?_)
  refine je_iload1 (pc := 7) d28_7 rfl ?_
  refine je_iconst (pc := 8) (v := 1) d28_8 rfl ?_
  refine jn_iclt (pc := 9) (a := (n + 1)) (b := 1) 26 d28_9 (by decide) (by omega) (by omega) (fun c9 => by exfalso; omega) (fun c9 => ?_)
  refine je_iload1 (pc := 12) d28_12 rfl ?_
  refine je_iconst (pc := 13) (v := 4) d28_13 rfl ?_
  refine jn_icgt (pc := 14) (a := (n + 1)) (b := 4) 26 d28_14 (by decide) (by omega) (by omega) (fun c14 => by exfalso; omega) (fun c14 => ?_)
  refine je_iload2 (pc := 17) d28_17 rfl ?_
  refine jn_iflt (pc := 18) (a := (y)) 26 d28_18 (by decide) (by omega) (fun c18 => by exfalso; omega) (fun c18 => ?_)
  refine je_iload2 (pc := 21) d28_21 rfl ?_
  refine je_iconst (pc := 22) (v := 1) d28_22 rfl ?_
  refine jn_icle (pc := 23) (a := (y)) (b := 1) 29 d28_23 (by decide) (by omega) (by omega) (fun c23 => ?_) (fun c23 => by exfalso; omega)
  refine je_aload0 (pc := 29) d28_29 rfl ?_
  refine ju_getr (pc := 30) (b := 79) d28_30 jF_0_72 rfl (sK1 H) (sR1_10 H) ?_
  refine je_aload0 (pc := 33) d28_33 rfl ?_
  refine ju_getr (pc := 34) (b := 26) d28_34 jF_0_41 rfl (sK1 H) (sR1_5 H) ?_
  refine ju_getr (pc := 37) (b := 40) d28_37 jF_0_124 rfl (sK26 H) (sR26_1 H) ?_
  refine je_iload1 (pc := 40) d28_40 rfl ?_
  refine ju_callv (pc := 41) (as := [_, _]) d28_41 jL_0_242 jM_Co_westGain rfl (by decide) (sK79 H) rfl (by exact Nat.le_of_ble_eq_true rfl) (t_Co_westGain d (n := n + 1) H C wS h0 hL hN hmi (by omega) h4 hnn wl hnl) (fun r41 h41 q41 => ?_)
  obtain ⟨rfl, f1, f2⟩ := q41
  have H2 := f1.St H
  refine ju_istore3 (pc := 44) (lv' := [some _, some _, some _, some _]) d28_44 rfl rfl ?_
  refine je_iload2 (pc := 45) d28_45 rfl ?_
  refine jn_ifne (pc := 46) (a := (y)) 53 d28_46 (by decide) (by omega) (fun c46 => ?_) (fun c46 => ?_)
  · refine je_aload0 (pc := 53) d28_53 rfl ?_
    refine ju_getr (pc := 54) (b := 79) d28_54 jF_0_72 rfl (sK1 H2) (sR1_10 H2) ?_
    refine ju_geti (pc := 57) d28_57 jF_0_245 rfl (sK79 H2) ?_
    refine je_iret (pc := 60) d28_60 rfl ?_
    exact ⟨by rw [if_neg c46]; exact congrArg (fun z => some (Value.int z)) f2, f1⟩
  · refine je_iload3 (pc := 49) d28_49 rfl ?_
    refine je_goto (pc := 50) 60 d28_50 (by decide) ?_
    refine je_iret (pc := 60) d28_60 rfl ?_
    exact ⟨by rw [if_pos c46], f1⟩
set_option maxHeartbeats 2000000 in
theorem t_Mo_dukes_n (d : Nat) {bc bs : Nat} {h : jx_H} (H : jx_St h) (x y : Int32) (G : ¬ (0 < h.2.1 254 0 ∧ (¬ x < 1 ∧ ¬ 4 < x) ∧ (¬ y < 0 ∧ ¬ 1 < y))) : jx_Tr (d + 10) bc bs 12089 [.ref 253, .int x, .int y] h (fun r h' => r = some (.int (-100)) ∧ h' = h) := by
  refine jx_tr jM_Mo_dukes rfl rfl (lv := [some (.ref 253), some (.int x), some (.int y), none]) rfl ?_
  refine je_aload0 (pc := 0) d12089_0 rfl ?_
  refine ju_callv (pc := 1) (as := []) d12089_1 jL_12_400 jM_Mo_isStrip rfl (by decide) (sK253 H) rfl (by exact Nat.le_of_ble_eq_true rfl) (t_Mo_isStrip (d + 8) H) (fun r1 h1 q1 => ?_)
  obtain ⟨rfl, e1⟩ := q1
  obtain rfl := e1.symm
  refine jb_ifeq (pc := 4) 29 d12089_4 (by decide) (fun c4 => ?_) (fun c4 => ?_)
  · refine je_bipush (pc := 29) (v := -100) d12089_29 rfl ?_
    refine je_iret (pc := 31) d12089_31 rfl ?_
    exact ⟨rfl, rfl⟩
  · refine je_iload1 (pc := 7) d12089_7 rfl ?_
    refine je_i2l (pc := 8) d12089_8 ?_
    refine je_lconst1 (pc := 9) d12089_9 ?_
    refine je_ldc2 (pc := 10) d12089_10 jK_12_422 ?_
    refine ju_calls (pc := 13) (as := [_, _, _]) d12089_13 jL_12_170 jM_Mo_in rfl rfl (by exact Nat.le_of_ble_eq_true rfl) (t_Mo_in (d + 8) _ _ _) (fun r13 h13 q13 => ?_)
    obtain ⟨rfl, e13⟩ := q13
    obtain rfl := e13.symm
    refine ju_eqi (v := b2 (¬ x < 1 ∧ ¬ 4 < x)) (in_1 (x) (n := 4) (by decide)) ?_
    refine jb_ifeq (pc := 16) 29 d12089_16 (by decide) (fun c16 => ?_) (fun c16 => ?_)
    · refine je_bipush (pc := 29) (v := -100) d12089_29 rfl ?_
      refine je_iret (pc := 31) d12089_31 rfl ?_
      exact ⟨rfl, rfl⟩
    · refine je_iload2 (pc := 19) d12089_19 rfl ?_
      refine je_i2l (pc := 20) d12089_20 ?_
      refine je_lconst0 (pc := 21) d12089_21 ?_
      refine je_lconst1 (pc := 22) d12089_22 ?_
      refine ju_calls (pc := 23) (as := [_, _, _]) d12089_23 jL_12_170 jM_Mo_in rfl rfl (by exact Nat.le_of_ble_eq_true rfl) (t_Mo_in (d + 8) _ _ _) (fun r23 h23 q23 => ?_)
      obtain ⟨rfl, e23⟩ := q23
      obtain rfl := e23.symm
      refine ju_eqi (v := b2 (¬ y < 0 ∧ ¬ 1 < y)) (in_0 (y) (n := 1) (by decide)) ?_
      refine jb_ifne (pc := 26) 32 d12089_26 (by decide) (fun c26 => absurd c26 (fun q => G ⟨c4, c16, q⟩)) (fun c26 => ?_)
      refine je_bipush (pc := 29) (v := -100) d12089_29 rfl ?_
      refine je_iret (pc := 31) d12089_31 rfl ?_
      exact ⟨rfl, rfl⟩
set_option maxHeartbeats 2000000 in
theorem t_Mo_dukes (d : Nat) {bc bs : Nat} {h : jx_H} {S : MS} {R : Option MR} {L : ML} {nn : Nat} (H : jx_St h) (C : mLaw h S R) (wS : wfS S) (h0 : 0 < S.1.1) (hmi : S.1.1 ≤ 10) (hL : mLa h.2.1 L) (hN : L.2.2.2.2.2 = nI nn) {n y : Nat} (h4 : n + 1 ≤ 4) (hy : y ≤ 1) (hnn : nn + n < 998) : jx_Tr (d + 10) bc bs 12089 [.ref 253, .int (nI (n + 1)), .int (nI y)] h (fun r h' => r = some (.int (if y = 0 then iZ (gnF S R (n + 1) true L) else chV (raF (fD S R n true L) (okC_ L) (S.1.1 + 1)))) ∧ mLk h h' L ∧ ∀ j, j < 9 → h'.2.1 254 j = h.2.1 254 j) := by
  refine jx_tr jM_Mo_dukes rfl rfl (lv := [some (.ref 253), some (.int (nI (n + 1))), some (.int (nI y)), none]) rfl ?_
  refine je_aload0 (pc := 0) d12089_0 rfl ?_
  refine ju_callv (pc := 1) (as := []) d12089_1 jL_12_400 jM_Mo_isStrip rfl (by decide) (sK253 H) rfl (by exact Nat.le_of_ble_eq_true rfl) (t_Mo_isStrip (d + 8) H) (fun r1 h1 q1 => ?_)
  obtain ⟨rfl, e1⟩ := q1
  obtain rfl := e1.symm
  refine jb_ifeq (pc := 4) 29 d12089_4 (by decide) (fun c4 => absurd c4 (fun q => q (by rw [C.1.1.1]; exact nI_lt (a := 0) h0 (by omega)))) (fun c4 => ?_)
  refine je_iload1 (pc := 7) d12089_7 rfl ?_
  refine je_i2l (pc := 8) d12089_8 ?_
  refine je_lconst1 (pc := 9) d12089_9 ?_
  refine je_ldc2 (pc := 10) d12089_10 jK_12_422 ?_
  refine ju_calls (pc := 13) (as := [_, _, _]) d12089_13 jL_12_170 jM_Mo_in rfl rfl (by exact Nat.le_of_ble_eq_true rfl) (t_Mo_in (d + 8) _ _ _) (fun r13 h13 q13 => ?_)
  obtain ⟨rfl, e13⟩ := q13
  obtain rfl := e13.symm
  refine ju_eqi (v := b2 (¬ nI (n + 1) < 1 ∧ ¬ 4 < nI (n + 1))) (in_1 (nI (n + 1)) (n := 4) (by decide)) ?_
  refine jb_ifeq (pc := 16) 29 d12089_16 (by decide) (fun c16 => absurd c16 (fun q => q ⟨nI_nlt (b := 1) (by omega) (by omega), nI_nlt (a := 4) (b := n + 1) h4 (by decide)⟩)) (fun c16 => ?_)
  refine je_iload2 (pc := 19) d12089_19 rfl ?_
  refine je_i2l (pc := 20) d12089_20 ?_
  refine je_lconst0 (pc := 21) d12089_21 ?_
  refine je_lconst1 (pc := 22) d12089_22 ?_
  refine ju_calls (pc := 23) (as := [_, _, _]) d12089_23 jL_12_170 jM_Mo_in rfl rfl (by exact Nat.le_of_ble_eq_true rfl) (t_Mo_in (d + 8) _ _ _) (fun r23 h23 q23 => ?_)
  obtain ⟨rfl, e23⟩ := q23
  obtain rfl := e23.symm
  refine ju_eqi (v := b2 (¬ nI y < 0 ∧ ¬ 1 < nI y)) (in_0 (nI y) (n := 1) (by decide)) ?_
  refine jb_ifne (pc := 26) 32 d12089_26 (by decide) (fun c26 => ?_) (fun c26 => absurd c26 (fun q => absurd ⟨nI_pos (by omega), nI_nlt (a := 1) (b := y) hy (by decide)⟩ q))
  refine je_aload0 (pc := 32) d12089_32 rfl ?_
  refine je_iload1 (pc := 33) d12089_33 rfl ?_
  refine ju_callv (pc := 34) (as := [_]) d12089_34 jL_12_528 jM_Mo_playsDukes rfl (by decide) (sK253 H) rfl (by exact Nat.le_of_ble_eq_true rfl) (t_Mo_playsDukes d H C wS h0 hmi hL hN h4 hnn) (fun r34 h34 q34 => ?_)
  obtain ⟨rfl, k1, k2, f2⟩ := q34
  have H2 := k1.St H
  refine ju_istore3 (pc := 37) (lv' := [some _, some _, some _, some _]) d12089_37 rfl rfl ?_
  refine je_iload2 (pc := 38) d12089_38 rfl ?_
  refine jn_ifne (pc := 39) (a := (y)) 46 d12089_39 (by decide) (by omega) (fun c39 => ?_) (fun c39 => ?_)
  · refine je_aload0 (pc := 46) d12089_46 rfl ?_
    refine ju_geti (pc := 47) d12089_47 jF_12_509 rfl (sK253 H2) ?_
    refine je_iret (pc := 50) d12089_50 rfl ?_
    exact ⟨by rw [if_neg c39]; exact congrArg (fun z => some (Value.int z)) f2, k1, k2⟩
  · refine je_iload3 (pc := 42) d12089_42 rfl ?_
    refine je_goto (pc := 43) 50 d12089_43 (by decide) ?_
    refine je_iret (pc := 50) d12089_50 rfl ?_
    exact ⟨by rw [if_pos c39], k1, k2⟩
theorem op_dukes (x y : Int32) : jo Inv 28 12089 [.int x, .int y] := jo_look (fun n h t nr rs X Y hn q => by
  obtain ⟨s, r1, r2, r3, r4, -⟩ := q.cl
  obtain ⟨b1, b2, -⟩ := q.mi
  obtain ⟨-, -, -, -, ⟨-, rl, -⟩, -, ⟨wS, wl, -⟩, -⟩ := id q
  by_cases G : 0 < X.1.1.1 ∧ (¬ x < 1 ∧ ¬ 4 < x) ∧ (¬ y < 0 ∧ ¬ 1 < y)
  · obtain ⟨G1, ⟨G2, G3⟩, G4⟩ := G
    obtain ⟨i', hi, rfl⟩ := z_of (x := x) (n := 4) ⟨fun c => G2 (Int32.lt_trans c (by decide)), G3⟩ (by decide)
    obtain ⟨k, hk, rfl⟩ := z_of (n := 1) G4 (by decide)
    have hi1 : 1 ≤ i' := Nat.le_of_not_lt (fun c => G2 (nI_lt (b := 1) c (by decide)))
    obtain ⟨i, rfl⟩ : ∃ i, i' = i + 1 := ⟨i' - 1, by omega⟩
    obtain ⟨R, C1, C2⟩ := q.law G1
    obtain ⟨-, -, -, N, hN, eN⟩ := id wl
    refine ⟨_, (t_Db_dukes 187 q.1 C1 wS G1 rl eN r1 r3 r4 b1 hi hk (by omega) wl (by omega)).mono (fun r h1 e => ⟨e.1, e.2.mo (fun b hb => by omega)⟩), fun h1 S1 g1 m1 => (t_Mo_dukes 189 S1 (C2 h1 g1) wS G1 b1 m1.la eN hi hk (by omega)).mono (fun r h2 e => ⟨e.1, e.2.1.fin e.2.2 m1⟩)⟩
  · have g0 : ∀ k : Nat, k ≤ 10 → (0 < nI k ↔ 0 < k) := fun k hk => nI_ltI (a := 0) (by decide) (by omega)
    exact ⟨-100, (t_Db_dukes_n 187 q.1 r1 r3 x y (by rw [r4.1.1]; exact fun c => G ⟨(g0 _ b1).mp c.1, ⟨c.2.1, c.2.2.1⟩, c.2.2.2⟩)).mono (fun r h1 e => ⟨e.1, by rw [e.2]; exact fC.rf⟩), fun h1 S1 g1 m1 => (t_Mo_dukes_n 189 S1 x y (by rw [m1.st.1.1]; exact fun c => G ⟨(g0 _ b1).mp c.1, c.2⟩)).mono (fun r h2 e => ⟨e.1, by rw [e.2]; exact ⟨fM.rf, m1⟩⟩)⟩)
