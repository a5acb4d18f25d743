/-! night, horses -/
theorem cRul.fr {h h' : jx_H} {R : Option MR} (q : cRul h R) (e : h'.2.2.2 51 1 = h.2.2.2 51 1) (e2 : ∀ b, 125 ≤ b → b ≤ 160 → h'.2.1 b = h.2.1 b) : cRul h' R := by
  match R, q with
  | none, q => exact e.trans q
  | some r, ⟨f, f1, f2, f3, f4⟩ => exact ⟨f, f1, e.trans f2, f3.of (fun b h1 h2 => e2 b (by omega) (by omega)), f4⟩
theorem cLaw.fr {A : Nat → Prop} {h h' : jx_H} {S : MS} {R : Option MR} (q : cLaw h S R) (f : fC A h h') (hA : ∀ b, A b → ¬ kRow b) : cLaw h' S R := by
  obtain ⟨s, c1, c2, c3, c4, c5⟩ := q
  exact ⟨s, f.rr c1, c2, f.Sp c3, c4.of (fun b h1 h2 => f.2 b (fun z => hA b z (Or.inl (sRow_of c2 h1 h2)))), c5.fr (by rw [f.1.2]) (fun b h1 h2 => f.2 b (fun z => hA b z (by unfold kRow; omega)))⟩
theorem InvX.law {n : Nat} {h : jx_H} {t nr : Nat} {rs : Nat → MR} {X : MW} {Y : Nat → MW} (q : InvX n h t nr rs X Y) (h0 : 0 < X.1.1.1) : ∃ R, cLaw h X.1 R ∧ ∀ h1 : jx_H, (∀ b, 253 ≤ b → b ≤ 303 → h1.2.1 b = h.2.1 b) → mLaw h1 X.1 R := by
  obtain ⟨s, r1, r2, r3, r4, -⟩ := q.cl
  obtain ⟨-, -, -, ⟨n6, -, -, ru⟩, -, m, ⟨-, -, wf, -⟩, l, -⟩ := id q
  obtain ⟨l1, l2, l3⟩ := l h0
  have m1 := m.st
  have m2 := m.fx.1
  rcases wf with wf | ⟨f, hf, ef⟩
  · refine ⟨none, ⟨s, l1.trans r1, r2, r3, r4, l2 wf⟩, fun h1 e => ⟨m1.fr (fun b hb => e b (by omega) (by omega)) (fun j _ => by rw [e 254 (by omega) (by omega)]), ?_⟩⟩
    show h1.2.1 254 8 = -1
    rw [e 254 (by omega) (by omega)]
    exact m2.trans wf
  · obtain ⟨a1, a2, a3⟩ := ru f hf
    refine ⟨some (rs f), ⟨s, l1.trans r1, r2, r3, r4, f, by omega, l3 f ef (by omega), a1, a3, a2.ok⟩, fun h1 e => ⟨m1.fr (fun b hb => e b (by omega) (by omega)) (fun j _ => by rw [e 254 (by omega) (by omega)]), f, by omega, ?_, a2.of (fun b h1 h2 => e b (by omega) (by omega)), a3⟩⟩
    rw [e 254 (by omega) (by omega)]
    exact m2.trans ef
theorem rW.act2 {h h1 h2 : jx_H} {X : MW} {L' : ML} (r : rW h 26 X) (hp : X.2.2.2.2.1 ≤ 20) (a : remP h h1) (b : fC (fun b => b = 65 ∨ 40 ≤ b ∧ b ≤ 44) h1 h2) (l : rL h2.2.1 40 L') : fC cRow h h2 ∧ rW h2 26 (X.1, L', X.2.2.1, X.2.2.2.1, pushP X.2.2.2.2 X.2.1) := by
  obtain ⟨-, r5, r6, r7, o, r8, r9, r10, r11⟩ := id r
  have f : fC (fun b => b = 26 ∨ b = 48 ∨ b = 65 ∨ 40 ≤ b ∧ b ≤ 44) h h2 := (a.1.mo (fun b hb => by omega)).tr (b.mo (fun b hb => by omega))
  refine ⟨f.mo (fun b hb => by unfold cRow kRow sRow; omega), r.ch f (fun b hb => by unfold sRow; omega) rfl l ?_ ?_ ?_⟩
  · rw [b.2 26 (by omega), a.2.1 2 (by decide) (by decide), a.2.1 3 (by decide) (by decide)]; exact r6
  · rw [b.2 26 (by omega), a.2.1 4 (by decide) (by decide), f.2 (26 + 19) (by omega), f.2 (26 + 20) (by omega), f.2 (26 + 21) (by omega)]; exact r7
  · obtain ⟨o', c1, c2, c3, c4⟩ := a.2.2 X.2.1 X.2.2.2.2 o r5 hp ⟨r8, r9, r10, r11⟩
    refine ⟨o', c1, ?_, ?_, ?_⟩
    · rw [b.2 26 (by omega)]; exact c2
    · rw [b.2 26 (by omega)]; exact c3
    · rw [b.2 (26 + 22) (by omega)]; exact c4
theorem jo_act2 {jc jm : Nat} {as : List Value} (f : ∀ n h t nr rs X Y, n < 512 → InvX n h t nr rs X Y →
    (∃ v : Int32, jx_Tr 199 13 206 jc (.ref 1 :: as) h (fun r h' => r = some (.int v) ∧ h' = h) ∧ ∀ h1, jx_St h1 → (∀ b, 253 ≤ b → b ≤ 303 → h1.2.1 b = h.2.1 b) → mW (gN h1) X → jx_Tr 199 0 0 jm (.ref 253 :: as) h1 (fun r h' => r = some (.int v) ∧ h' = h1)) ∨
    (∃ (v : Int32) (L' : ML), wfL (n + 1) X.1.1.1 X.1.1.2.1 L' ∧ jx_Tr 199 13 206 jc (.ref 1 :: as) h (fun r h2 => r = some (.int v) ∧ ∃ h1, remP h h1 ∧ fC (fun b => b = 65 ∨ 40 ≤ b ∧ b ≤ 44) h1 h2 ∧ rL h2.2.1 40 L') ∧
      ∀ h1, jx_St h1 → (∀ b, 253 ≤ b → b ≤ 303 → h1.2.1 b = h.2.1 b) → mW (gN h1) X → jx_Tr 199 0 0 jm (.ref 253 :: as) h1 (fun r h3 => r = some (.int v) ∧ ∃ h2, keeP h1 h2 ∧ fC (fun b => 254 ≤ b ∧ b ≤ 257 ∨ b = 262 ∨ 288 ≤ b ∧ b ≤ 291) h2 h3 ∧ (∀ j, j ≠ 4 → j ≠ 5 → h3.2.1 254 j = h2.2.1 254 j) ∧ mLa h3.2.1 L'))) : jo Inv jc jm as := by
  refine jo_st (fun n h t nr rs X Y hn q => ?_)
  obtain ⟨Q1, Q2, Q3, Q4, Q5, Q6, Q7, Q8, Q9⟩ := id q
  have hp := Q7.2.2.2.2.2.1
  rcases f n h t nr rs X Y hn q with ⟨v, c, m⟩ | ⟨v, L', w, c, m⟩
  · refine ⟨v, X, h, q.B, ⟨rfl, rfl⟩, Q7.up (Nat.le_succ n) (Nat.le_refl nr), Q8, c.mono (fun r h1 e => ?_), fun h1 S1 g1 m1 => (m h1 S1 g1 m1).mono (fun r h2 e => ?_)⟩
    · obtain ⟨rfl, rfl⟩ := e
      exact ⟨rfl, fC.rf, Q5⟩
    · obtain ⟨rfl, rfl⟩ := e
      exact ⟨rfl, fM.rf, m1⟩
  · refine ⟨v, (X.1, L', X.2.2.1, X.2.2.2.1, pushP X.2.2.2.2 X.2.1), h, q.B, ⟨rfl, rfl⟩, Q7.act w, Q8.of rfl rfl rfl, c.mono (fun r h2 e => ?_), fun h1 S1 g1 m1 => (m h1 S1 g1 m1).mono (fun r h3 e => ?_)⟩
    · obtain ⟨rfl, h1, e1, e2, e3⟩ := e
      exact ⟨rfl, Q5.act2 hp e1 e2 e3⟩
    · obtain ⟨rfl, h2, e1, e2, e3, e4⟩ := e
      exact ⟨rfl, m1.act hp e1 e2 e3 e4⟩
set_option maxHeartbeats 2000000 in
theorem t_Db_night_n (d : Nat) {bc bs : Nat} {h : jx_H} {s : Nat} (H : jx_St h) (hr : h.2.2.2 26 0 = some s) (P : jx_Sp h s) (G : ¬ 0 < h.2.1 s 0) : jx_Tr (d + 5) bc bs 13 [.ref 1] h (fun r h' => r = some (.int (-1)) ∧ h' = h) := by
  refine jx_tr jM_Db_night rfl rfl (lv := [some (.ref 1)]) rfl ?_
  refine je_aload0 (pc := 0) d13_0 rfl ?_
  refine ju_callv (pc := 1) (as := []) d13_1 jL_0_169 jM_Db_hasStrip rfl (by decide) (sK1 H) rfl (by exact Nat.le_of_ble_eq_true rfl) (t_Db_hasStrip (d + 3) H hr P) (fun r1 h1 q1 => ?_)
  obtain ⟨rfl, e1⟩ := q1
  obtain rfl := e1.symm
  refine jb_ifeq (pc := 4) 23 d13_4 (by decide) (fun c4 => ?_) (fun c4 => absurd c4 G)
  refine je_iconst (pc := 23) (v := -1) d13_23 rfl ?_
  refine je_iret (pc := 24) d13_24 rfl ?_
  exact ⟨rfl, rfl⟩
set_option maxHeartbeats 2000000 in
theorem t_Db_night (d : Nat) {bc bs : Nat} {h : jx_H} {s : Nat} (H : jx_St h) (hr : h.2.2.2 26 0 = some s) (P : jx_Sp h s) {o k : Nat} (h9 : h.2.1 26 9 = nI o) (h10 : h.2.1 26 10 = nI k) (ho : o < 20) (hk : k ≤ 20) {S : MS} {R : Option MR} {L : ML} {nn : Nat} (G : 0 < h.2.1 s 0) (C : cLaw h S R) (wS : wfS S) (h0 : 0 < S.1.1) (hL : rL h.2.1 40 L) (hN : L.2.2.2.2.2 = nI nn) (hn : nn < 998) : jx_Tr (d + 5) bc bs 13 [.ref 1] h (fun r h' => r = some (.int (nI (cnN S L.1 (linF S R (warmF S L.2.2.2.2.2) L) S.1.2.1))) ∧ ∃ h1, remP h h1 ∧ fC (fun b => b = 65 ∨ 40 ≤ b ∧ b ≤ 44) h1 h' ∧ rL h'.2.1 40 (nightF S R (warmF S L.2.2.2.2.2) L)) := by
  refine jx_tr jM_Db_night rfl rfl (lv := [some (.ref 1)]) rfl ?_
  refine je_aload0 (pc := 0) d13_0 rfl ?_
  refine ju_callv (pc := 1) (as := []) d13_1 jL_0_169 jM_Db_hasStrip rfl (by decide) (sK1 H) rfl (by exact Nat.le_of_ble_eq_true rfl) (t_Db_hasStrip (d + 3) H hr P) (fun r1 h1 q1 => ?_)
  obtain ⟨rfl, e1⟩ := q1
  obtain rfl := e1.symm
  refine jb_ifeq (pc := 4) 23 d13_4 (by decide) (fun c4 => absurd c4 (fun z => z G)) (fun c4 => ?_)
  refine je_aload0 (pc := 7) d13_7 rfl ?_
  refine ju_getr (pc := 8) (b := 26) d13_8 jF_0_41 rfl (sK1 H) (sR1_5 H) ?_
  refine ju_getr (pc := 11) (b := 40) d13_11 jF_0_124 rfl (sK26 H) (sR26_1 H) ?_
  refine ju_geti (pc := 14) d13_14 jF_0_177 rfl (sK40 H) ?_
  refine ju_eqi (v := nI nn) (hL.2.2.2.2.2.trans hN) ?_
  refine je_sipush (pc := 17) (v := 999) d13_17 rfl ?_
  refine jn_iclt (pc := 20) (a := (nn)) (b := 999) 25 d13_20 (by decide) (by omega) (by omega) (fun c20 => ?_) (fun c20 => by exfalso; omega)
  refine je_aload0 (pc := 25) d13_25 rfl ?_
  refine ju_getr (pc := 26) (b := 26) d13_26 jF_0_41 rfl (sK1 H) (sR1_5 H) ?_
  refine ju_callv (pc := 29) (as := []) d13_29 jL_0_180 jM_Wo_remember rfl (by decide) (sK26 H) rfl (by exact Nat.le_of_ble_eq_true rfl) (t_Wo_remember (d + 0) H h9 h10 ho hk) (fun r29 h29 q29 => ?_)
  obtain ⟨rfl, w1⟩ := q29
  have H2 := w1.1.St H
  have P2 := w1.1.Sp P
  have hr2 := w1.1.rr hr
  have L2 : rL h29.2.1 40 L := w1.cp hL
  refine je_aload0 (pc := 32) d13_32 rfl ?_
  refine ju_getr (pc := 33) (b := 51) d13_33 jF_0_56 rfl (sK1 H2) (sR1_8 H2) ?_
  refine je_aload0 (pc := 36) d13_36 rfl ?_
  refine ju_getr (pc := 37) (b := 26) d13_37 jF_0_41 rfl (sK1 H2) (sR1_5 H2) ?_
  refine ju_getr (pc := 40) (b := 40) d13_40 jF_0_124 rfl (sK26 H2) (sR26_1 H2) ?_
  refine je_iconst (pc := 43) (v := -1) d13_43 rfl ?_
  refine ju_callv (pc := 44) (as := [_, _]) d13_44 jL_0_183 jM_Lw_pass rfl (by decide) (sK51 H2) rfl (by exact Nat.le_of_ble_eq_true rfl) (t_Lw_pass d (a := 40) H2 (C.fr w1.1 (fun b hb => by unfold kRow sRow; omega)) wS h0 (Or.inl rfl) L2 hN hn (-1) _ rfl) (fun r44 h44 q44 => ?_)
  obtain ⟨rfl, f1, f2⟩ := q44
  rw [if_pos rfl] at f2
  rw [if_pos rfl]
  refine ju_calls (pc := 47) (as := [_]) d13_47 jL_0_186 jM_Int_bitCount rfl rfl (by exact Nat.le_of_ble_eq_true rfl) (t_Int_bitCount (d + 3) _) (fun r47 h47 q47 => ?_)
  obtain ⟨rfl, e47⟩ := q47
  obtain rfl := e47.symm
  refine ju_eqi (v := nI (cnN S L.1 (linF S R (warmF S L.2.2.2.2.2) L) S.1.2.1)) (by rw [bcF_ok _ (Nat.lt_of_lt_of_le (crN_lt S L.1 (linF S R (warmF S L.2.2.2.2.2) L)) (Nat.le_trans (Nat.pow_le_pow_right (n := 2) (by decide) wS.2.1) (by decide))), crN_pop S L.1 (linF S R (warmF S L.2.2.2.2.2) L) wS.2.1]) ?_
  refine je_iret (pc := 50) d13_50 rfl ?_
  exact ⟨rfl, h29, w1, f1, f2⟩
set_option maxHeartbeats 2000000 in
theorem t_Mo_night_n (d : Nat) {bc bs : Nat} {h : jx_H} (H : jx_St h) (G : ¬ 0 < h.2.1 254 0) : jx_Tr (d + 8) bc bs 12055 [.ref 253] h (fun r h' => r = some (.int (-1)) ∧ h' = h) := by
  refine jx_tr jM_Mo_night rfl rfl (lv := [some (.ref 253)]) rfl ?_
  refine je_aload0 (pc := 0) d12055_0 rfl ?_
  refine ju_callv (pc := 1) (as := []) d12055_1 jL_12_400 jM_Mo_isStrip rfl (by decide) (sK253 H) rfl (by exact Nat.le_of_ble_eq_true rfl) (t_Mo_isStrip (d + 6) H) (fun r1 h1 q1 => ?_)
  obtain ⟨rfl, e1⟩ := q1
  obtain rfl := e1.symm
  refine jb_ifeq (pc := 4) 19 d12055_4 (by decide) (fun c4 => ?_) (fun c4 => absurd c4 G)
  refine je_iconst (pc := 19) (v := -1) d12055_19 rfl ?_
  refine je_iret (pc := 20) d12055_20 rfl ?_
  exact ⟨rfl, rfl⟩
set_option maxHeartbeats 2000000 in
theorem t_Mo_night (d : Nat) {bc bs : Nat} {h : jx_H} {S : MS} {R : Option MR} {L : ML} {nn k : Nat} (H : jx_St h) (C : mLaw h S R) (wS : wfS S) (h0 : 0 < S.1.1) (hmi : S.1.1 ≤ 10) (hL : mLa h.2.1 L) (hN : L.2.2.2.2.2 = nI nn) (hn : nn < 998) (h51 : h.2.1 253 51 = nI k) (hk : k ≤ 20) : jx_Tr (d + 8) bc bs 12055 [.ref 253] h (fun r h' => r = some (.int (nI (cnN S L.1 (linF S R (warmF S L.2.2.2.2.2) L) S.1.2.1))) ∧ ∃ h1, keeP h h1 ∧ fN h1 h' ∧ mLa h'.2.1 (nightF S R (warmF S L.2.2.2.2.2) L)) := by
  refine jx_tr jM_Mo_night rfl rfl (lv := [some (.ref 253)]) rfl ?_
  refine je_aload0 (pc := 0) d12055_0 rfl ?_
  refine ju_callv (pc := 1) (as := []) d12055_1 jL_12_400 jM_Mo_isStrip rfl (by decide) (sK253 H) rfl (by exact Nat.le_of_ble_eq_true rfl) (t_Mo_isStrip (d + 6) H) (fun r1 h1 q1 => ?_)
  obtain ⟨rfl, e1⟩ := q1
  obtain rfl := e1.symm
  refine jb_ifeq (pc := 4) 19 d12055_4 (by decide) (fun c4 => absurd c4 (fun z => z (by rw [C.1.1.1]; exact nI_lt (a := 0) h0 (by omega)))) (fun c4 => ?_)
  refine je_aload0 (pc := 7) d12055_7 rfl ?_
  refine ju_getr (pc := 8) (b := 254) d12055_8 jF_12_9 rfl (sK253 H) (sR253_1 H) ?_
  refine je_iconst (pc := 11) (v := 5) d12055_11 rfl ?_
  refine ju_iald (pc := 12) (jn := 5) d12055_12 (sK254 H) (by first | assumption | exact jx_ok_dec (by decide)) (by decide) ?_
  refine ju_eqi (v := nI nn) (hL.2.2.2.trans hN) ?_
  refine je_sipush (pc := 13) (v := 999) d12055_13 rfl ?_
  refine jn_icne (pc := 16) (a := (nn)) (b := 999) 21 d12055_16 (by decide) (by omega) (by omega) (fun c16 => ?_) (fun c16 => by exfalso; omega)
  refine je_aload0 (pc := 21) d12055_21 rfl ?_
  refine ju_callv (pc := 22) (as := []) d12055_22 jL_12_460 jM_Mo_keepsAct rfl (by decide) (sK253 H) rfl (by exact Nat.le_of_ble_eq_true rfl) (t_Mo_keepsAct (d + 3) H h51 hk) (fun r22 h22 q22 => ?_)
  obtain ⟨rfl, w1⟩ := q22
  have H2 := w1.1.St H
  have L2 : mLa h22.2.1 L := w1.la hL
  refine je_aload0 (pc := 25) d12055_25 rfl ?_
  refine ju_callv (pc := 26) (as := []) d12055_26 jL_12_439 jM_Mo_goesNight rfl (by decide) (sK253 H2) rfl (by exact Nat.le_of_ble_eq_true rfl) (t_Mo_goesNight d H2 (C.fr (fun b hb => w1.1.2 b (by omega)) (fun j _ => by rw [w1.1.2 254 (by omega)])) wS h0 hmi L2 hN (by omega)) (fun r26 h26 q26 => ?_)
  obtain ⟨rfl, f1, f2⟩ := q26
  refine je_iret (pc := 29) d12055_29 rfl ?_
  exact ⟨rfl, h22, w1, f1, f2⟩
theorem op_night : jo Inv 13 12055 [] := jo_act2 (fun n h t nr rs X Y hn q => by
  obtain ⟨s, r1, r2, r3, ⟨⟨a1, -⟩, -⟩, -⟩ := q.cl
  obtain ⟨b1, -, -⟩ := q.mi
  obtain ⟨o, p1, p2, p3, p4⟩ := q.pa
  obtain ⟨-, -, -, -, ⟨-, rl, -⟩, -, ⟨wS, wl, -⟩, -⟩ := id q
  by_cases G : 0 < X.1.1.1
  · obtain ⟨R, C1, C2⟩ := q.law G
    obtain ⟨-, -, -, N, hN, eN⟩ := id wl
    refine Or.inr ⟨_, nightF X.1 R (warmF X.1 X.2.1.2.2.2.2.2) X.2.1, wl.night b1 (by omega) (warmF_bd wS _), t_Db_night 194 q.1 r1 r3 p2 p3 p1 p4 (by rw [a1]; exact nI_lt (a := 0) G (by omega)) C1 wS G rl eN (by omega), fun h1 S1 g1 m1 => (t_Mo_night 191 S1 (C2 h1 g1) wS G b1 m1.la eN (by omega) m1.pa.1 p4).mono (fun r h3 e => ?_)⟩
    obtain ⟨rfl, h2, w1, f1, f2⟩ := e
    exact ⟨rfl, h2, w1, f1.1.mo (fun b hb => by omega), fun j _ h5 => f1.2 j h5, f2⟩
  · have e0 : X.1.1.1 = 0 := by omega
    exact Or.inl ⟨-1, t_Db_night_n 194 q.1 r1 r3 (by rw [a1, e0]; decide), fun h1 S1 g1 m1 => t_Mo_night_n 191 S1 (by rw [m1.st.1.1, e0]; decide)⟩)
set_option maxHeartbeats 2000000 in
theorem t_Db_horses_n (d : Nat) {bc bs : Nat} {h : jx_H} {s : Nat} (H : jx_St h) (hr : h.2.2.2 26 0 = some s) (P : jx_Sp h s) (x y : Int32) (G : ¬ (((¬ x < 0 ∧ x < h.2.1 s 0) ∧ ¬ bkd (h.2.1 40 4) x) ∧ ¬ y = 0 ∧ ¬ y < -3 ∧ ¬ 3 < y)) : jx_Tr (d + 5) bc bs 18 [.ref 1, .int x, .int y] h (fun r h' => r = some (.int (-100)) ∧ h' = h) := by
  refine jx_tr jM_Db_horses rfl rfl (lv := [some (.ref 1), some (.int x), some (.int y), none]) rfl ?_
  refine je_aload0 (pc := 0) d18_0 rfl ?_
  refine je_iload1 (pc := 1) d18_1 rfl ?_
  refine ju_callv (pc := 2) (as := [_]) d18_2 jL_0_191 jM_Db_isSoft rfl (by decide) (sK1 H) rfl (by exact Nat.le_of_ble_eq_true rfl) (t_Db_isSoft (d + 2) H hr P _) (fun r2 h2 q2 => ?_)
  obtain ⟨rfl, e2⟩ := q2
  obtain rfl := e2.symm
  refine jb_ifeq (pc := 5) 23 d18_5 (by decide) (fun c5 => ?_) (fun c5 => ?_)
  · refine je_bipush (pc := 23) (v := -100) d18_23 rfl ?_
    refine je_iret (pc := 25) d18_25 rfl ?_
    exact ⟨rfl, rfl⟩
  · refine je_iload2 (pc := 8) d18_8 rfl ?_
    refine je_ifeq (pc := 9) 23 d18_9 (by decide) (fun c9 => ?_) (fun c9 => ?_)
    · refine je_bipush (pc := 23) (v := -100) d18_23 rfl ?_
      refine je_iret (pc := 25) d18_25 rfl ?_
      exact ⟨rfl, rfl⟩
    · refine je_iload2 (pc := 12) d18_12 rfl ?_
      refine je_bipush (pc := 13) (v := -3) d18_13 rfl ?_
      refine je_iclt (pc := 15) 23 d18_15 (by decide) (fun c15 => ?_) (fun c15 => ?_)
      · refine je_bipush (pc := 23) (v := -100) d18_23 rfl ?_
        refine je_iret (pc := 25) d18_25 rfl ?_
        exact ⟨rfl, rfl⟩
      · refine je_iload2 (pc := 18) d18_18 rfl ?_
        refine je_iconst (pc := 19) (v := 3) d18_19 rfl ?_
        refine ju_icle (pc := 20) 26 d18_20 (by decide) (fun c20 => absurd c20 (fun z => G ⟨c5, c9, c15, z⟩)) (fun c20 => ?_)
        refine je_bipush (pc := 23) (v := -100) d18_23 rfl ?_
        refine je_iret (pc := 25) d18_25 rfl ?_
        exact ⟨rfl, rfl⟩
set_option maxHeartbeats 2000000 in
theorem t_Db_horses (d : Nat) {bc bs : Nat} {h : jx_H} {s : Nat} (H : jx_St h) (hr : h.2.2.2 26 0 = some s) (P : jx_Sp h s) {o k : Nat} (h9 : h.2.1 26 9 = nI o) (h10 : h.2.1 26 10 = nI k) (ho : o < 20) (hk : k ≤ 20) {S : MS} {L : ML} {j : Nat} (y : Int32) (hs : sA s) (hS : rS h.2.1 s S) (wS : wfS S) (hL : rL h.2.1 40 L) (hj : j < S.1.1) (hmi : S.1.1 ≤ 10) (hb : ¬ bkd L.2.2.2.2.1 (nI j)) (hy : ¬ y = 0 ∧ ¬ y < -3 ∧ ¬ 3 < y) : jx_Tr (d + 5) bc bs 18 [.ref 1, .int (nI j), .int y] h (fun r h' => r = some (.int (mhold (L.1 j + y) (-20) 20)) ∧ ∃ h1, remP h h1 ∧ fC (fun b => b = 65 ∨ 40 ≤ b ∧ b ≤ 44) h1 h' ∧ rL h'.2.1 40 ((jx_up L.1 j (mhold (L.1 j + y) (-20) 20)), L.2.1, L.2.2.1, croF S L.1 (jx_up L.1 j (mhold (L.1 j + y) (-20) 20)) L.2.2.2.1, L.2.2.2.2)) := by
  refine jx_tr jM_Db_horses rfl rfl (lv := [some (.ref 1), some (.int (nI j)), some (.int y), none]) rfl ?_
  have w8 := wS.2.1
  have sd : s + 12 < 40 ∨ 44 < s := by unfold sA at hs; omega
  refine je_aload0 (pc := 0) d18_0 rfl ?_
  refine je_iload1 (pc := 1) d18_1 rfl ?_
  refine ju_callv (pc := 2) (as := [_]) d18_2 jL_0_191 jM_Db_isSoft rfl (by decide) (sK1 H) rfl (by exact Nat.le_of_ble_eq_true rfl) (t_Db_isSoft (d + 2) H hr P _) (fun r2 h2 q2 => ?_)
  obtain ⟨rfl, e2⟩ := q2
  obtain rfl := e2.symm
  refine jb_ifeq (pc := 5) 23 d18_5 (by decide) (fun c5 => absurd c5 (fun z => z ⟨by rw [hS.1.1]; exact isM_nI hj (by omega), by rw [hL.2.2.2.2.1]; exact hb⟩)) (fun c5 => ?_)
  refine je_iload2 (pc := 8) d18_8 rfl ?_
  refine je_ifeq (pc := 9) 23 d18_9 (by decide) (fun c9 => absurd c9 hy.1) (fun c9 => ?_)
  refine je_iload2 (pc := 12) d18_12 rfl ?_
  refine je_bipush (pc := 13) (v := -3) d18_13 rfl ?_
  refine je_iclt (pc := 15) 23 d18_15 (by decide) (fun c15 => absurd c15 hy.2.1) (fun c15 => ?_)
  refine je_iload2 (pc := 18) d18_18 rfl ?_
  refine je_iconst (pc := 19) (v := 3) d18_19 rfl ?_
  refine ju_icle (pc := 20) 26 d18_20 (by decide) (fun c20 => ?_) (fun c20 => absurd c20 hy.2.2)
  refine je_aload0 (pc := 26) d18_26 rfl ?_
  refine ju_getr (pc := 27) (b := 26) d18_27 jF_0_41 rfl (sK1 H) (sR1_5 H) ?_
  refine ju_callv (pc := 30) (as := []) d18_30 jL_0_180 jM_Wo_remember rfl (by decide) (sK26 H) rfl (by exact Nat.le_of_ble_eq_true rfl) (t_Wo_remember d H h9 h10 ho hk) (fun r30 h30 q30 => ?_)
  obtain ⟨rfl, w1⟩ := q30
  have H2 := w1.1.St H
  have P2 := w1.1.Sp P
  have hr2 := w1.1.rr hr
  have L2 : rL h30.2.1 40 L := w1.cp hL
  have S2 : rS h30.2.1 s S := hS.of (fun b h1 h2 => w1.1.2 b (fun z => by unfold sA at hs; omega))
  have A2 : jx_La h30 40 := sL40 H2
  refine je_aload0 (pc := 33) d18_33 rfl ?_
  refine ju_getr (pc := 34) (b := 26) d18_34 jF_0_41 rfl (sK1 H2) (sR1_5 H2) ?_
  refine ju_getr (pc := 37) (b := s) d18_37 jF_0_143 rfl (sK26 H2) hr2 ?_
  refine je_aload0 (pc := 40) d18_40 rfl ?_
  refine ju_getr (pc := 41) (b := 26) d18_41 jF_0_41 rfl (sK1 H2) (sR1_5 H2) ?_
  refine ju_getr (pc := 44) (b := 40) d18_44 jF_0_124 rfl (sK26 H2) (sR26_1 H2) ?_
  refine ju_callv (pc := 47) (as := [_]) d18_47 jL_0_194 jM_St_sidesOf rfl (by decide) P2.1.1 rfl (by exact Nat.le_of_ble_eq_true rfl) (t_St_sidesOf (d + 3) (S := S) (l := L.1) P2 A2 S2 wS L2.1) (fun r47 h47 q47 => ?_)
  obtain ⟨rfl, e47⟩ := q47
  obtain rfl := e47.symm
  refine ju_istore3 (pc := 50) (lv' := [some _, some _, some _, some _]) d18_50 rfl rfl ?_
  refine je_aload0 (pc := 51) d18_51 rfl ?_
  refine ju_getr (pc := 52) (b := 26) d18_52 jF_0_41 rfl (sK1 H2) (sR1_5 H2) ?_
  refine ju_getr (pc := 55) (b := 40) d18_55 jF_0_124 rfl (sK26 H2) (sR26_1 H2) ?_
  refine je_iload1 (pc := 58) d18_58 rfl ?_
  refine je_iload2 (pc := 59) d18_59 rfl ?_
  refine ju_callv (pc := 60) (as := [_, _]) d18_60 jL_0_198 jM_La_moveLine rfl (by decide) (sK40 H2) rfl (by exact Nat.le_of_ble_eq_true rfl) (t_La_moveLine (d + 2) (a := 40) (m := j) A2 (by omega) _) (fun r60 h60 q60 => ?_)
  obtain ⟨rfl, e60⟩ := q60
  rw [L2.1 j (by omega)] at e60
  obtain rfl := e60.symm
  have L3 := L2.w1 (j := j) (v := mhold (L.1 j + y) (-20) 20)
  refine je_aload0 (pc := 63) d18_63 rfl ?_
  refine ju_getr (pc := 64) (b := 26) d18_64 jF_0_41 rfl (sK1 H2.wI) (sR1_5 H2.wI) ?_
  refine ju_getr (pc := 67) (b := 40) d18_67 jF_0_124 rfl (sK26 H2.wI) (sR26_1 H2.wI) ?_
  refine je_iload3 (pc := 70) d18_70 rfl ?_
  refine je_aload0 (pc := 71) d18_71 rfl ?_
  refine ju_getr (pc := 72) (b := 26) d18_72 jF_0_41 rfl (sK1 H2.wI) (sR1_5 H2.wI) ?_
  refine ju_getr (pc := 75) (b := s) d18_75 jF_0_143 rfl (sK26 H2.wI) hr2 ?_
  refine je_aload0 (pc := 78) d18_78 rfl ?_
  refine ju_getr (pc := 79) (b := 26) d18_79 jF_0_41 rfl (sK1 H2.wI) (sR1_5 H2.wI) ?_
  refine ju_getr (pc := 82) (b := 40) d18_82 jF_0_124 rfl (sK26 H2.wI) (sR26_1 H2.wI) ?_
  refine ju_callv (pc := 85) (as := [_]) d18_85 jL_0_194 jM_St_sidesOf rfl (by decide) P2.wI.1.1 rfl (by exact Nat.le_of_ble_eq_true rfl) (t_St_sidesOf (d + 3) (S := S) (l := (jx_up L.1 j (mhold (L.1 j + y) (-20) 20))) P2.wI A2.wI (S2.of (fun b h1 h2 => wI_ne _ _ _ (by omega))) wS L3.1) (fun r85 h85 q85 => ?_)
  obtain ⟨rfl, e85⟩ := q85
  obtain rfl := e85.symm
  refine ju_calls (pc := 88) (as := [_, _]) d18_88 jL_0_202 jM_Db_changedSides rfl rfl (by exact Nat.le_of_ble_eq_true rfl) (t_Db_changedSides (d + 2) _ _) (fun r88 h88 q88 => ?_)
  obtain ⟨rfl, e88⟩ := q88
  obtain rfl := e88.symm
  refine ju_eqi (v := nI (crN S L.1 (jx_up L.1 j (mhold (L.1 j + y) (-20) 20)) S.1.2.1)) (chI_ok S L.1 (jx_up L.1 j (mhold (L.1 j + y) (-20) 20)) w8) ?_
  have z8 : crN S L.1 (jx_up L.1 j (mhold (L.1 j + y) (-20) 20)) S.1.2.1 < 256 := Nat.lt_of_lt_of_le (crN_lt S L.1 _) (Nat.pow_le_pow_right (n := 2) (by decide) w8)
  refine ju_callv (pc := 91) (as := [_]) d18_91 jL_0_206 jM_La_countCrossed rfl (by decide) (sK40 H2.wI) rfl (by exact Nat.le_of_ble_eq_true rfl) (t_La_countCrossed (d + 3) (a := 40) A2.wI z8) (fun r91 h91 q91 => ?_)
  obtain ⟨rfl, f3, f4⟩ := q91
  have H4 := f3.St H2.wI
  refine je_aload0 (pc := 94) d18_94 rfl ?_
  refine ju_getr (pc := 95) (b := 26) d18_95 jF_0_41 rfl (sK1 H4) (sR1_5 H4) ?_
  refine ju_getr (pc := 98) (b := 40) d18_98 jF_0_124 rfl (sK26 H4) (sR26_1 H4) ?_
  refine ju_getr (pc := 101) (b := 41) d18_101 jF_0_128 rfl (sK40 H4) (sR40_0 H4) ?_
  refine je_iload1 (pc := 104) d18_104 rfl ?_
  refine ju_iald (pc := 105) (jn := (j)) d18_105 (sK41 H4) (vp_in_nI (by omega) (by decide)) (nI_clamp (by omega)) ?_
  refine ju_eqi (v := mhold (L.1 j + y) (-20) 20) (by rw [f3.2 41 (by decide)]; exact (L3.1 j (by omega)).trans (jx_up_self _ _ _)) ?_
  refine je_iret (pc := 106) d18_106 rfl ?_
  refine ⟨rfl, h30, w1, (fC.rf.wI (by omega)).tr (f3.mo (fun b hb => by omega)), ?_⟩
  obtain ⟨z1, z2, z3, z4, z5, z6⟩ := L3
  refine ⟨fun m hm => ?_, fun m hm => ?_, fun m hm => ?_, fun v hv => ?_, ?_, ?_⟩
  · rw [f3.2 (40 + 1) (by decide)]; exact z1 m hm
  · rw [f3.2 (40 + 2) (by decide)]; exact z2 m hm
  · rw [f3.2 (40 + 3) (by decide)]; exact z3 m hm
  · rw [f4 v hv]
    refine Eq.trans ?_ (croF_ok w8 hv)
    unfold ccF
    rw [z4 v hv]
  · rw [f3.2 40 (by decide)]; exact z5
  · rw [f3.2 40 (by decide)]; exact z6
theorem in_h3 (x : Int32) : b2 ((-3 : Int64) ≤ x.toInt64 ∧ x.toInt64 ≤ 3) = b2 (¬ x < -3 ∧ ¬ 3 < x) := b2_c (by
  rw [fa_le64, fa_le64, Int32.toInt_toInt64, fa_lt, fa_lt, show (-3 : Int64).toInt = -3 from rfl, show (3 : Int64).toInt = 3 from rfl, show (-3 : Int32).toInt = -3 from rfl, show (3 : Int32).toInt = 3 from rfl]
  omega)
set_option maxHeartbeats 2000000 in
theorem t_Mo_pushes (d : Nat) {bc bs : Nat} {h : jx_H} {m : Nat} (H : jx_St h) (hm : m < 10) (x : Int32) : jx_Tr (d + 2) bc bs 12072 [.ref 253, .int (nI m), .int x] h (fun r h' => r = none ∧ h' = jx_wI h 255 m (mhold (h.2.1 255 m + x) (-20) 20)) := by
  refine jx_tr jM_Mo_pushes rfl rfl (lv := [some (.ref 253), some (.int (nI m)), some (.int x)]) rfl ?_
  refine je_aload0 (pc := 0) d12072_0 rfl ?_
  refine ju_getr (pc := 1) (b := 255) d12072_1 jF_12_13 rfl (sK253 H) (sR253_2 H) ?_
  refine je_iload1 (pc := 4) d12072_4 rfl ?_
  refine je_aload0 (pc := 5) d12072_5 rfl ?_
  refine ju_getr (pc := 6) (b := 255) d12072_6 jF_12_13 rfl (sK253 H) (sR253_2 H) ?_
  refine je_iload1 (pc := 9) d12072_9 rfl ?_
  refine ju_iald (pc := 10) (jn := (m)) d12072_10 (sK255 H) (vp_in_nI (by omega) (by decide)) (nI_clamp (by omega)) ?_
  refine je_iload2 (pc := 11) d12072_11 rfl ?_
  refine je_iadd (pc := 12) d12072_12 ?_
  refine je_i2l (pc := 13) d12072_13 ?_
  refine je_bipush (pc := 14) (v := 20) d12072_14 rfl ?_
  refine ju_calls (pc := 16) (as := [_, _]) d12072_16 jL_12_406 jM_Mo_held rfl rfl (by exact Nat.le_of_ble_eq_true rfl) (t_Mo_held (d + 0) _ _) (fun r16 h16 q16 => ?_)
  obtain ⟨rfl, e16⟩ := q16
  obtain rfl := e16.symm
  refine ju_eqi (v := mhold (h.2.1 255 m + x) (-20) 20) (mheld_w _ 20) ?_
  refine ju_iast (pc := 19) (jn := (m)) d12072_19 (sK255 H) (vp_in_nI (by omega) (by decide)) (nI_clamp (by omega)) ?_
  refine je_ret (pc := 20) d12072_20 rfl ?_
  exact ⟨rfl, rfl⟩
set_option maxHeartbeats 2000000 in
theorem t_Mo_horses_n (d : Nat) {bc bs : Nat} {h : jx_H} {mi : Nat} (H : jx_St h) (hm : h.2.1 254 0 = nI mi) (hmi : mi ≤ 10) (x y : Int32) (G : ¬ ((isM x mi ∧ ¬ bkd (h.2.1 254 4) x) ∧ (¬ y < -3 ∧ ¬ 3 < y) ∧ ¬ y = 0)) : jx_Tr (d + 5) bc bs 12070 [.ref 253, .int x, .int y] h (fun r h' => r = some (.int (-100)) ∧ h' = h) := by
  refine jx_tr jM_Mo_horses rfl rfl (lv := [some (.ref 253), some (.int x), some (.int y)]) rfl ?_
  refine je_aload0 (pc := 0) d12070_0 rfl ?_
  refine je_iload1 (pc := 1) d12070_1 rfl ?_
  refine ju_callv (pc := 2) (as := [_]) d12070_2 jL_12_463 jM_Mo_isSoft rfl (by decide) (sK253 H) rfl (by exact Nat.le_of_ble_eq_true rfl) (t_Mo_isSoft (d + 1) H _ hm (by omega)) (fun r2 h2 q2 => ?_)
  obtain ⟨rfl, e2⟩ := q2
  obtain rfl := e2.symm
  refine jb_ifeq (pc := 5) 26 d12070_5 (by decide) (fun c5 => ?_) (fun c5 => ?_)
  · refine je_bipush (pc := 26) (v := -100) d12070_26 rfl ?_
    refine je_iret (pc := 28) d12070_28 rfl ?_
    exact ⟨rfl, rfl⟩
  · refine je_iload2 (pc := 8) d12070_8 rfl ?_
    refine je_i2l (pc := 9) d12070_9 ?_
    refine je_ldc2 (pc := 10) d12070_10 jK_12_466 ?_
    refine je_ldc2 (pc := 13) d12070_13 jK_12_468 ?_
    refine ju_calls (pc := 16) (as := [_, _, _]) d12070_16 jL_12_170 jM_Mo_in rfl rfl (by exact Nat.le_of_ble_eq_true rfl) (t_Mo_in (d + 3) _ _ _) (fun r16 h16 q16 => ?_)
    obtain ⟨rfl, e16⟩ := q16
    obtain rfl := e16.symm
    refine ju_eqi (v := b2 (¬ y < -3 ∧ ¬ 3 < y)) (in_h3 y) ?_
    refine jb_ifeq (pc := 19) 26 d12070_19 (by decide) (fun c19 => ?_) (fun c19 => ?_)
    · refine je_bipush (pc := 26) (v := -100) d12070_26 rfl ?_
      refine je_iret (pc := 28) d12070_28 rfl ?_
      exact ⟨rfl, rfl⟩
    · refine je_iload2 (pc := 22) d12070_22 rfl ?_
      refine je_ifne (pc := 23) 29 d12070_23 (by decide) (fun c23 => absurd c23 (fun z => G ⟨c5, c19, z⟩)) (fun c23 => ?_)
      refine je_bipush (pc := 26) (v := -100) d12070_26 rfl ?_
      refine je_iret (pc := 28) d12070_28 rfl ?_
      exact ⟨rfl, rfl⟩
set_option maxHeartbeats 2000000 in
theorem t_Mo_horses (d : Nat) {bc bs : Nat} {h : jx_H} {S : MS} {L : ML} {j k : Nat} (H : jx_St h) (hS : mSt h.2.1 S) (wS : wfS S) (y : Int32) (hL : mLa h.2.1 L) (hj : j < S.1.1) (hmi : S.1.1 ≤ 10) (hb : ¬ bkd L.2.2.2.2.1 (nI j)) (hy : ¬ y = 0 ∧ ¬ y < -3 ∧ ¬ 3 < y) (h51 : h.2.1 253 51 = nI k) (hk : k ≤ 20) : jx_Tr (d + 5) bc bs 12070 [.ref 253, .int (nI j), .int y] h (fun r h' => r = some (.int (mhold (L.1 j + y) (-20) 20)) ∧ ∃ h1, keeP h h1 ∧ fC (fun b => b = 255 ∨ b = 262 ∨ b = 291) h1 h' ∧ mLa h'.2.1 ((jx_up L.1 j (mhold (L.1 j + y) (-20) 20)), L.2.1, L.2.2.1, croF S L.1 (jx_up L.1 j (mhold (L.1 j + y) (-20) 20)) L.2.2.2.1, L.2.2.2.2)) := by
  refine jx_tr jM_Mo_horses rfl rfl (lv := [some (.ref 253), some (.int (nI j)), some (.int y)]) rfl ?_
  have hm := hS.1.1
  refine je_aload0 (pc := 0) d12070_0 rfl ?_
  refine je_iload1 (pc := 1) d12070_1 rfl ?_
  refine ju_callv (pc := 2) (as := [_]) d12070_2 jL_12_463 jM_Mo_isSoft rfl (by decide) (sK253 H) rfl (by exact Nat.le_of_ble_eq_true rfl) (t_Mo_isSoft (d + 1) H _ hm (by omega)) (fun r2 h2 q2 => ?_)
  obtain ⟨rfl, e2⟩ := q2
  obtain rfl := e2.symm
  refine jb_ifeq (pc := 5) 26 d12070_5 (by decide) (fun c5 => absurd c5 (fun z => z ⟨isM_nI hj (by omega), by rw [hL.2.2.1]; exact hb⟩)) (fun c5 => ?_)
  refine je_iload2 (pc := 8) d12070_8 rfl ?_
  refine je_i2l (pc := 9) d12070_9 ?_
  refine je_ldc2 (pc := 10) d12070_10 jK_12_466 ?_
  refine je_ldc2 (pc := 13) d12070_13 jK_12_468 ?_
  refine ju_calls (pc := 16) (as := [_, _, _]) d12070_16 jL_12_170 jM_Mo_in rfl rfl (by exact Nat.le_of_ble_eq_true rfl) (t_Mo_in (d + 3) _ _ _) (fun r16 h16 q16 => ?_)
  obtain ⟨rfl, e16⟩ := q16
  obtain rfl := e16.symm
  refine ju_eqi (v := b2 (¬ y < -3 ∧ ¬ 3 < y)) (in_h3 y) ?_
  refine jb_ifeq (pc := 19) 26 d12070_19 (by decide) (fun c19 => absurd c19 (fun z => z hy.2)) (fun c19 => ?_)
  refine je_iload2 (pc := 22) d12070_22 rfl ?_
  refine je_ifne (pc := 23) 29 d12070_23 (by decide) (fun c23 => ?_) (fun c23 => absurd c23 hy.1)
  refine je_aload0 (pc := 29) d12070_29 rfl ?_
  refine ju_callv (pc := 30) (as := []) d12070_30 jL_12_460 jM_Mo_keepsAct rfl (by decide) (sK253 H) rfl (by exact Nat.le_of_ble_eq_true rfl) (t_Mo_keepsAct d H h51 hk) (fun r30 h30 q30 => ?_)
  obtain ⟨rfl, w1⟩ := q30
  have H2 := w1.1.St H
  have L2 : mLa h30.2.1 L := w1.la hL
  have S2 : mSt h30.2.1 S := hS.fr (fun b hb => w1.1.2 b (by omega)) (fun j _ => by rw [w1.1.2 254 (by omega)])
  refine je_aload0 (pc := 33) d12070_33 rfl ?_
  refine ju_callv (pc := 34) (as := []) d12070_34 jL_12_424 jM_Mo_notesSides rfl (by decide) (sK253 H2) rfl (by exact Nat.le_of_ble_eq_true rfl) (t_Mo_notesSides (d + 2) (S := S) (l := L.1) H2 S2 wS (fun m hm => (L2.1 m hm).1)) (fun r34 h34 q34 => ?_)
  obtain ⟨rfl, f1, f2⟩ := q34
  have H3 := f1.St H2
  have l3 : h34.2.1 255 j = L.1 j := by rw [f1.2 255 (by omega)]; exact (L2.1 j (by omega)).1
  refine je_aload0 (pc := 37) d12070_37 rfl ?_
  refine je_iload1 (pc := 38) d12070_38 rfl ?_
  refine je_iload2 (pc := 39) d12070_39 rfl ?_
  refine ju_callv (pc := 40) (as := [_, _]) d12070_40 jL_12_470 jM_Mo_pushes rfl (by decide) (sK253 H3) rfl (by exact Nat.le_of_ble_eq_true rfl) (t_Mo_pushes (d + 2) (m := j) H3 (by omega) _) (fun r40 h40 q40 => ?_)
  obtain ⟨rfl, e40⟩ := q40
  rw [l3] at e40
  obtain rfl := e40.symm
  refine je_aload0 (pc := 43) d12070_43 rfl ?_
  refine ju_callv (pc := 44) (as := []) d12070_44 jL_12_433 jM_Mo_crossing rfl (by decide) (sK253 H3.wI) rfl (by exact Nat.le_of_ble_eq_true rfl) (t_Mo_crossing (d + 2) (S := S) (l := L.1) (l' := (jx_up L.1 j (mhold (L.1 j + y) (-20) 20))) H3.wI (S2.fr (fun b hb => (wI_ne _ _ _ (by omega)).trans (f1.2 b (by omega))) (fun i hi => by rw [wI_ne _ _ _ (by decide), f1.2 254 (by omega)])) wS (fun m hm => by rw [wI_at]; unfold jx_up; rw [f1.2 255 (by omega), (L2.1 m hm).1]) (fun v hv => by rw [wI_ne _ _ _ (by decide)]; exact f2 v hv)) (fun r44 h44 q44 => ?_)
  obtain ⟨rfl, f3, f4⟩ := q44
  have H4 := f3.St H3.wI
  refine je_pop (pc := 47) d12070_47 rfl ?_
  refine je_aload0 (pc := 48) d12070_48 rfl ?_
  refine ju_getr (pc := 49) (b := 255) d12070_49 jF_12_13 rfl (sK253 H4) (sR253_2 H4) ?_
  refine je_iload1 (pc := 52) d12070_52 rfl ?_
  refine ju_iald (pc := 53) (jn := (j)) d12070_53 (sK255 H4) (vp_in_nI (by omega) (by decide)) (nI_clamp (by omega)) ?_
  refine ju_eqi (v := mhold (L.1 j + y) (-20) 20) (by rw [f3.2 255 (by omega), wI_at, jx_up_self]) ?_
  refine je_iret (pc := 54) d12070_54 rfl ?_
  refine ⟨rfl, h30, w1, ((f1.mo (fun b hb => by omega)).wI (by omega)).tr (f3.mo (fun b hb => by omega)), fun m hm => ⟨?_, ?_, ?_⟩, fun v hv => ?_, ?_, ?_⟩
  · rw [f3.2 255 (by omega), wI_at]; unfold jx_up; rw [f1.2 255 (by omega), (L2.1 m hm).1]
  · rw [f3.2 256 (by omega), wI_ne _ _ _ (by decide), f1.2 256 (by omega)]; exact (L2.1 m hm).2.1
  · rw [f3.2 257 (by omega), wI_ne _ _ _ (by decide), f1.2 257 (by omega)]; exact (L2.1 m hm).2.2
  · rw [f4 v hv]
    unfold croF
    rw [wI_ne _ _ _ (by decide), f1.2 262 (by omega), L2.2.1 v hv]
  · rw [f3.2 254 (by omega), wI_ne _ _ _ (by decide), f1.2 254 (by omega)]; exact L2.2.2.1
  · rw [f3.2 254 (by omega), wI_ne _ _ _ (by decide), f1.2 254 (by omega)]; exact L2.2.2.2
theorem croF_bd {n : Nat} (hn : n < 100000) {S : MS} {l l' c : Nat → Int32} (h : ∀ v, v < 8 → bdI (c v) 0 n ∧ (S.1.2.1 ≤ v → c v = 0)) : ∀ v, v < 8 → bdI (croF S l l' c v) 0 (n + 1 : Nat) ∧ (S.1.2.1 ≤ v → croF S l l' c v = 0) := fun v hv => by
  obtain ⟨c1, c2⟩ := h v hv
  have := c1.1
  have := c1.2
  unfold croF
  split
  · rename_i z
    refine ⟨⟨?_, ?_⟩, fun q => absurd z.1 (by omega)⟩
    · rw [tI_add (by omega) (by omega) (by decide) (by decide), show (1 : Int32).toInt = 1 from rfl]; omega
    · rw [tI_add (by omega) (by omega) (by decide) (by decide), show (1 : Int32).toInt = 1 from rfl]; omega
  · exact ⟨c1.wk (by omega) (by omega), c2⟩
theorem op_horses (x y : Int32) : jo Inv 18 12070 [.int x, .int y] := jo_act2 (fun n h t nr rs X Y hn q => by
  obtain ⟨s, r1, r2, r3, r4, l1, l2, l3, l4, l5, l6⟩ := q.cl
  obtain ⟨b1, -, -⟩ := q.mi
  obtain ⟨o, p1, p2, p3, p4⟩ := q.pa
  obtain ⟨-, -, -, -, ⟨-, rl, -⟩, -, ⟨wS, wl, -⟩, -⟩ := id q
  by_cases G : (isM x X.1.1.1 ∧ ¬ bkd X.2.1.2.2.2.2.1 x) ∧ ¬ y = 0 ∧ ¬ y < -3 ∧ ¬ 3 < y
  · obtain ⟨⟨G1, G2⟩, G3⟩ := G
    obtain ⟨j, hj, rfl⟩ := isM_of G1 (by omega)
    have wl' : wfL (n + 1) X.1.1.1 X.1.1.2.1 ((jx_up X.2.1.1 j (mhold (X.2.1.1 j + y) (-20) 20)), X.2.1.2.1, X.2.1.2.2.1, croF X.1 X.2.1.1 (jx_up X.2.1.1 j (mhold (X.2.1.1 j + y) (-20) 20)) X.2.1.2.2.2.1, X.2.1.2.2.2.2) := by
      refine ⟨fun m hm => ⟨bd_up (wl.1 m hm).1 (mhold_bd rfl rfl (by decide)), (wl.1 m hm).2⟩, croF_bd (by omega) wl.2.1, wl.2.2.1, ?_⟩
      obtain ⟨-, -, -, N, hN, eN⟩ := wl
      exact ⟨N, by omega, eN⟩
    refine Or.inr ⟨mhold (X.2.1.1 j + y) (-20) 20, ((jx_up X.2.1.1 j (mhold (X.2.1.1 j + y) (-20) 20)), X.2.1.2.1, X.2.1.2.2.1, croF X.1 X.2.1.1 (jx_up X.2.1.1 j (mhold (X.2.1.1 j + y) (-20) 20)) X.2.1.2.2.2.1, X.2.1.2.2.2.2), wl', t_Db_horses 194 q.1 r1 r3 p2 p3 p1 p4 y r2 r4 wS rl hj b1 G2 G3, fun h1 S1 g1 m1 => (t_Mo_horses 194 S1 m1.st wS y m1.la hj b1 G2 G3 m1.pa.1 p4).mono (fun r h3 e => ?_)⟩
    obtain ⟨rfl, h2, w1, f1, f2⟩ := e
    exact ⟨rfl, h2, w1, f1.mo (fun b hb => by omega), fun j _ _ => by rw [f1.2 254 (by omega)], f2⟩
  · exact Or.inl ⟨-100, t_Db_horses_n 194 q.1 r1 r3 x y (by rw [r4.1.1, l5]; exact G), fun h1 S1 g1 m1 => t_Mo_horses_n 194 S1 m1.st.1.1 b1 x y (by rw [m1.la.2.2.1]; exact fun z => G ⟨z.1, z.2.2, z.2.1⟩)⟩)
