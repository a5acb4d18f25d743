/-! mile, village, warm, force -/
theorem je_loop {σ : Type} {d bc bs i pc : Nat} {Q : Option Value → jx_H → Prop} (N : Nat) (LV : Nat → σ → List (Option Value)) (J : Nat → σ → jx_H → Prop)
    (step : ∀ k x h, k < N → J k x h → (∀ x' h', J (k + 1) x' h' → jx_Ev d bc bs i pc (LV (k + 1) x') [] h' Q) → jx_Ev d bc bs i pc (LV k x) [] h Q)
    (last : ∀ x h, J N x h → jx_Ev d bc bs i pc (LV N x) [] h Q) : ∀ (k : Nat) (x : σ) (h : jx_H), k ≤ N → J k x h → jx_Ev d bc bs i pc (LV k x) [] h Q := by
  have key : ∀ (t k : Nat) (x : σ) (h : jx_H), k + t = N → J k x h → jx_Ev d bc bs i pc (LV k x) [] h Q := by
    intro t
    induction t with
    | zero => intro k x h e j; have : k = N := by omega
              subst this; exact last x h j
    | succ t ih => intro k x h e j; exact step k x h (by omega) j (fun x' h' j' => ih (k + 1) x' h' (by omega) j')
  exact fun k x h hk j => key (N - k) k x h (by omega) j
theorem b2_n {q : Prop} [Decidable q] (h : ¬ b2 q = 0) : q := Decidable.not_not.mp (fun z => h (b2_0.mpr z))
theorem or0 (x : Int32) : x ||| 0 = x := by simp
/-- an operation that changes nothing -/
theorem jo_ro {jc jm : Nat} {as : List Value} (f : ∀ n h t nr rs X Y, InvX n h t nr rs X Y → ∃ v : Int32, jx_Tr 199 13 206 jc (.ref 1 :: as) h (fun r h' => r = some (.int v) ∧ h' = h) ∧ jx_Tr 199 0 0 jm (.ref 253 :: as) h (fun r h' => r = some (.int v) ∧ h' = h)) : jo Inv jc jm as := by
  intro n h hn q
  obtain ⟨t, nr, rs, X, Y, q⟩ := q
  obtain ⟨v, c, m⟩ := f n h t nr rs X Y q
  refine c.mono (fun r h1 hq => ?_)
  obtain ⟨rfl, rfl⟩ := hq
  refine ⟨⟨rfl, rfl, sK253 q.1⟩, v, rfl, m.mono (fun r' h2 hq2 => ?_)⟩
  obtain ⟨rfl, rfl⟩ := hq2
  exact ⟨rfl, rfl, t, nr, rs, X, Y, q.up (by omega)⟩
/-- what the class, the model see of the world of now -/
theorem InvX.cl {n : Nat} {h : jx_H} {t nr : Nat} {rs : Nat → MR} {X : MW} {Y : Nat → MW} (q : InvX n h t nr rs X Y) : ∃ s, h.2.2.2 26 0 = some s ∧ sA s ∧ jx_Sp h s ∧ rS h.2.1 s X.1 ∧ rL h.2.1 40 X.2.1 := by
  obtain ⟨-, -, -, -, ⟨⟨s, r1, r2, r3, r4⟩, r5, -⟩, -⟩ := q
  exact ⟨s, r1, r2, r3, r4, r5⟩
theorem InvX.mo {n : Nat} {h : jx_H} {t nr : Nat} {rs : Nat → MR} {X : MW} {Y : Nat → MW} (q : InvX n h t nr rs X Y) : mSt h.2.1 X.1 ∧ mLa h.2.1 X.2.1 := by
  obtain ⟨-, -, -, -, -, ⟨m1, m2, -⟩, -⟩ := q
  exact ⟨m1, m2⟩
theorem InvX.mi {n : Nat} {h : jx_H} {t nr : Nat} {rs : Nat → MR} {X : MW} {Y : Nat → MW} (q : InvX n h t nr rs X Y) : X.1.1.1 ≤ 10 ∧ X.1.1.2.1 ≤ 8 ∧ X.1.1.2.2.1 ≤ 8 := by
  obtain ⟨-, -, -, -, -, -, ⟨⟨w1, w2, w3, -⟩, -⟩, -⟩ := q
  exact ⟨by rcases w1 with ⟨e, -⟩ | e <;> omega, w2, w3⟩
set_option maxHeartbeats 2000000 in
theorem t_Db_mile (d : Nat) {bc bs : Nat} {h : jx_H} {s : Nat} (H : jx_St h) (hr : h.2.2.2 26 0 = some s) (P : jx_Sp h s) {j mi : Nat} (y : Int32) (hm : h.2.1 s 0 = nI mi) (hj : j < mi) (hmi : mi ≤ 10) : jx_Tr (d + 3) bc bs 7 [.ref 1, .int (nI j), .int y] h (fun r h' => r = some (.int (if y = 0 then h.2.1 41 j else if y = 1 then h.2.1 42 j else if y = 2 then h.2.1 43 j else if y = 3 then b2 (bkd (h.2.1 40 4) (nI j)) else if y = 4 then h.2.1 (s + 5) j else -100)) ∧ h' = h) := by
  refine jx_tr jM_Db_mile rfl rfl (lv := [some (.ref 1), some (.int (nI j)), some (.int y)]) rfl ?_
  have okj : jx_ok (nI j) 10 := vp_in_nI (by omega) (by decide)
  have ej : (nI j).toNatClampNeg = j := nI_clamp (by omega)
  have hM : ¬ nI j < 0 ∧ nI j < h.2.1 s 0 := by rw [hm]; exact isM_nI hj (by omega)
  refine je_aload0 (pc := 0) d7_0 rfl ?_
  refine je_iload1 (pc := 1) d7_1 rfl ?_
  refine ju_callv (pc := 2) (as := [_]) d7_2 jL_0_120 jM_Db_isMile rfl (by decide) (sK1 H) rfl (by exact Nat.le_of_ble_eq_true rfl) (t_Db_isMile (d + 1) H hr P _) (fun r2 h2 q2 => ?_)
  obtain ⟨rfl, e2⟩ := q2
  obtain rfl := e2.symm
  refine je_ifne (pc := 5) 11 d7_5 (by decide) (fun c5 => ?_) (fun c5 => absurd c5 (by rw [b2_t hM]; decide))
  refine je_iload2 (pc := 11) d7_11 rfl ?_
  by_cases s12_0 : y = 0
  · refine je_table (pc := 12) 48 d7_12 (by rw [s12_0]; decide) (by rw [s12_0]; decide) (off := 36) (by rw [s12_0]; rfl) (by decide) ?_
    refine je_aload0 (pc := 48) d7_48 rfl ?_
    refine ju_getr (pc := 49) (b := 26) d7_49 jF_0_41 rfl (sK1 H) (sR1_5 H) ?_
    refine ju_getr (pc := 52) (b := 40) d7_52 jF_0_124 rfl (sK26 H) (sR26_1 H) ?_
    refine ju_getr (pc := 55) (b := 41) d7_55 jF_0_128 rfl (sK40 H) (sR40_0 H) ?_
    refine je_iload1 (pc := 58) d7_58 rfl ?_
    refine ju_iald (pc := 59) (jn := j) d7_59 (sK41 H) (by first | assumption | exact jx_ok_dec (by decide)) ej ?_
    refine je_iret (pc := 60) d7_60 rfl ?_
    exact ⟨by rw [if_pos s12_0], rfl⟩
  by_cases s12_1 : y = 1
  · refine je_table (pc := 12) 61 d7_12 (by rw [s12_1]; decide) (by rw [s12_1]; decide) (off := 49) (by rw [s12_1]; rfl) (by decide) ?_
    refine je_aload0 (pc := 61) d7_61 rfl ?_
    refine ju_getr (pc := 62) (b := 26) d7_62 jF_0_41 rfl (sK1 H) (sR1_5 H) ?_
    refine ju_getr (pc := 65) (b := 40) d7_65 jF_0_124 rfl (sK26 H) (sR26_1 H) ?_
    refine ju_getr (pc := 68) (b := 42) d7_68 jF_0_134 rfl (sK40 H) (sR40_1 H) ?_
    refine je_iload1 (pc := 71) d7_71 rfl ?_
    refine ju_iald (pc := 72) (jn := j) d7_72 (sK42 H) (by first | assumption | exact jx_ok_dec (by decide)) ej ?_
    refine je_iret (pc := 73) d7_73 rfl ?_
    exact ⟨by rw [if_neg s12_0, if_pos s12_1], rfl⟩
  by_cases s12_2 : y = 2
  · refine je_table (pc := 12) 74 d7_12 (by rw [s12_2]; decide) (by rw [s12_2]; decide) (off := 62) (by rw [s12_2]; rfl) (by decide) ?_
    refine je_aload0 (pc := 74) d7_74 rfl ?_
    refine ju_getr (pc := 75) (b := 26) d7_75 jF_0_41 rfl (sK1 H) (sR1_5 H) ?_
    refine ju_getr (pc := 78) (b := 40) d7_78 jF_0_124 rfl (sK26 H) (sR26_1 H) ?_
    refine ju_getr (pc := 81) (b := 43) d7_81 jF_0_137 rfl (sK40 H) (sR40_2 H) ?_
    refine je_iload1 (pc := 84) d7_84 rfl ?_
    refine ju_iald (pc := 85) (jn := j) d7_85 (sK43 H) (by first | assumption | exact jx_ok_dec (by decide)) ej ?_
    refine je_iret (pc := 86) d7_86 rfl ?_
    exact ⟨by rw [if_neg s12_0, if_neg s12_1, if_pos s12_2], rfl⟩
  by_cases s12_3 : y = 3
  · refine je_table (pc := 12) 87 d7_12 (by rw [s12_3]; decide) (by rw [s12_3]; decide) (off := 75) (by rw [s12_3]; rfl) (by decide) ?_
    refine je_aload0 (pc := 87) d7_87 rfl ?_
    refine ju_getr (pc := 88) (b := 26) d7_88 jF_0_41 rfl (sK1 H) (sR1_5 H) ?_
    refine ju_getr (pc := 91) (b := 40) d7_91 jF_0_124 rfl (sK26 H) (sR26_1 H) ?_
    refine je_iload1 (pc := 94) d7_94 rfl ?_
    refine ju_callv (pc := 95) (as := [_]) d7_95 jL_0_140 jM_La_isBaked rfl (by decide) (sK40 H) rfl (by exact Nat.le_of_ble_eq_true rfl) (t_La_isBaked (d + 1) (sL40 H) _) (fun r95 h95 q95 => ?_)
    obtain ⟨rfl, e95⟩ := q95
    obtain rfl := e95.symm
    refine je_ifeq (pc := 98) 105 d7_98 (by decide) (fun c98 => ?_) (fun c98 => ?_)
    · refine je_iconst (pc := 105) (v := 0) d7_105 rfl ?_
      refine je_iret (pc := 106) d7_106 rfl ?_
      exact ⟨by rw [if_neg s12_0, if_neg s12_1, if_neg s12_2, if_pos s12_3, b2_f (b2_0.mp c98)], rfl⟩
    · refine je_iconst (pc := 101) (v := 1) d7_101 rfl ?_
      refine je_goto (pc := 102) 106 d7_102 (by decide) ?_
      refine je_iret (pc := 106) d7_106 rfl ?_
      exact ⟨by rw [if_neg s12_0, if_neg s12_1, if_neg s12_2, if_pos s12_3, b2_t (Decidable.not_not.mp (fun z => c98 (b2_0.mpr z)))], rfl⟩
  by_cases s12_4 : y = 4
  · refine je_table (pc := 12) 107 d7_12 (by rw [s12_4]; decide) (by rw [s12_4]; decide) (off := 95) (by rw [s12_4]; rfl) (by decide) ?_
    refine je_aload0 (pc := 107) d7_107 rfl ?_
    refine ju_getr (pc := 108) (b := 26) d7_108 jF_0_41 rfl (sK1 H) (sR1_5 H) ?_
    refine ju_getr (pc := 111) (b := s) d7_111 jF_0_143 rfl (sK26 H) hr ?_
    refine ju_getr (pc := 114) (b := (s + 5)) d7_114 jF_0_147 rfl P.1.1 P.1.2.2.2.2.2.1.2 ?_
    refine je_iload1 (pc := 117) d7_117 rfl ?_
    refine ju_iald (pc := 118) (jn := j) d7_118 P.1.2.2.2.2.2.1.1 (by first | assumption | exact jx_ok_dec (by decide)) ej ?_
    refine je_iret (pc := 119) d7_119 rfl ?_
    exact ⟨by rw [if_neg s12_0, if_neg s12_1, if_neg s12_2, if_neg s12_3, if_pos s12_4], rfl⟩
  have ns12_0 := lv_neT s12_0 (a := 0) rfl
  have ns12_1 := lv_neT s12_1 (a := 1) rfl
  have ns12_2 := lv_neT s12_2 (a := 2) rfl
  have ns12_3 := lv_neT s12_3 (a := 3) rfl
  have ns12_4 := lv_neT s12_4 (a := 4) rfl
  refine je_tableO (pc := 12) 120 d7_12 (by omega) (by decide) ?_
  refine je_bipush (pc := 120) (v := -100) d7_120 rfl ?_
  refine je_iret (pc := 122) d7_122 rfl ?_
  exact ⟨by rw [if_neg s12_0, if_neg s12_1, if_neg s12_2, if_neg s12_3, if_neg s12_4], rfl⟩
set_option maxHeartbeats 2000000 in
theorem t_Mo_warm (d : Nat) {bc bs : Nat} {h : jx_H} (H : jx_St h) (x : Int32) : jx_Tr (d + 2) bc bs 12048 [.ref 253, .int x] h (fun r h' => r = some (.int (if 0 < h.2.1 254 0 ∧ ¬ x < 0 then (if x < 100 then h.2.1 258 x.toNatClampNeg else 0) else -1)) ∧ h' = h) := by
  refine jx_tr jM_Mo_warm rfl rfl (lv := [some (.ref 253), some (.int x)]) rfl ?_
  refine je_aload0 (pc := 0) d12048_0 rfl ?_
  refine ju_callv (pc := 1) (as := []) d12048_1 jL_12_400 jM_Mo_isStrip rfl (by decide) (sK253 H) rfl (by exact Nat.le_of_ble_eq_true rfl) (t_Mo_isStrip (d + 0) H) (fun r1 h1 q1 => ?_)
  obtain ⟨rfl, e1⟩ := q1
  obtain rfl := e1.symm
  refine je_ifeq (pc := 4) 19 d12048_4 (by decide) (fun c4 => ?_) (fun c4 => ?_)
  · refine je_iconst (pc := 19) (v := -1) d12048_19 rfl ?_
    refine je_iret (pc := 20) d12048_20 rfl ?_
    exact ⟨by rw [if_neg (fun z => b2_0.mp c4 z.1)], rfl⟩
  · refine je_iload1 (pc := 7) d12048_7 rfl ?_
    refine je_iflt (pc := 8) 19 d12048_8 (by decide) (fun c8 => ?_) (fun c8 => ?_)
    · refine je_iconst (pc := 19) (v := -1) d12048_19 rfl ?_
      refine je_iret (pc := 20) d12048_20 rfl ?_
      exact ⟨by rw [if_neg (fun z => z.2 c8)], rfl⟩
    · refine je_aload0 (pc := 11) d12048_11 rfl ?_
      refine je_iload1 (pc := 12) d12048_12 rfl ?_
      refine ju_callv (pc := 13) (as := [_]) d12048_13 jL_12_403 jM_Mo_warmthOf rfl (by decide) (sK253 H) rfl (by exact Nat.le_of_ble_eq_true rfl) (t_Mo_warmthOf (d + 0) H x (by assumption)) (fun r13 h13 q13 => ?_)
      obtain ⟨rfl, e13⟩ := q13
      obtain rfl := e13.symm
      refine je_goto (pc := 16) 20 d12048_16 (by decide) ?_
      refine je_iret (pc := 20) d12048_20 rfl ?_
      exact ⟨by rw [if_pos (⟨b2_n c4, c8⟩ : 0 < h.2.1 254 0 ∧ ¬ x < 0)], rfl⟩
set_option maxHeartbeats 2000000 in
theorem t_Db_warm (d : Nat) {bc bs : Nat} {h : jx_H} {s : Nat} (H : jx_St h) (hr : h.2.2.2 26 0 = some s) (P : jx_Sp h s) (x : Int32) : jx_Tr (d + 2) bc bs 11 [.ref 1, .int x] h (fun r h' => r = some (.int (if 0 < h.2.1 s 0 ∧ ¬ x < 0 then (if ¬ x < 0 ∧ x < 100 then h.2.1 (s + 1) x.toNatClampNeg else 0) else -1)) ∧ h' = h) := by
  refine jx_tr jM_Db_warm rfl rfl (lv := [some (.ref 1), some (.int x)]) rfl ?_
  refine je_iload1 (pc := 0) d11_0 rfl ?_
  refine je_iflt (pc := 1) 11 d11_1 (by decide) (fun c1 => ?_) (fun c1 => ?_)
  · refine je_iconst (pc := 11) (v := -1) d11_11 rfl ?_
    refine je_goto (pc := 12) 26 d11_12 (by decide) ?_
    refine je_iret (pc := 26) d11_26 rfl ?_
    exact ⟨by rw [if_neg (fun z => z.2 c1)], rfl⟩
  · refine je_aload0 (pc := 4) d11_4 rfl ?_
    refine ju_callv (pc := 5) (as := []) d11_5 jL_0_169 jM_Db_hasStrip rfl (by decide) (sK1 H) rfl (by exact Nat.le_of_ble_eq_true rfl) (t_Db_hasStrip (d + 0) H hr P) (fun r5 h5 q5 => ?_)
    obtain ⟨rfl, e5⟩ := q5
    obtain rfl := e5.symm
    refine je_ifne (pc := 8) 15 d11_8 (by decide) (fun c8 => ?_) (fun c8 => ?_)
    · refine je_aload0 (pc := 15) d11_15 rfl ?_
      refine ju_getr (pc := 16) (b := 26) d11_16 jF_0_41 rfl (sK1 H) (sR1_5 H) ?_
      refine ju_getr (pc := 19) (b := s) d11_19 jF_0_143 rfl (sK26 H) hr ?_
      refine je_iload1 (pc := 22) d11_22 rfl ?_
      refine ju_callv (pc := 23) (as := [_]) d11_23 jL_0_173 jM_St_warmthOf rfl (by decide) P.1.1 rfl (by exact Nat.le_of_ble_eq_true rfl) (t_St_warmthOf (d + 0) P x) (fun r23 h23 q23 => ?_)
      obtain ⟨rfl, e23⟩ := q23
      obtain rfl := e23.symm
      refine je_iret (pc := 26) d11_26 rfl ?_
      exact ⟨by rw [if_pos (⟨b2_n c8, c1⟩ : 0 < h.2.1 s 0 ∧ ¬ x < 0)], rfl⟩
    · refine je_iconst (pc := 11) (v := -1) d11_11 rfl ?_
      refine je_goto (pc := 12) 26 d11_12 (by decide) ?_
      refine je_iret (pc := 26) d11_26 rfl ?_
      exact ⟨by rw [if_neg (fun z => b2_0.mp c8 z.1)], rfl⟩
theorem op_warm (x : Int32) : jo Inv 11 12048 [.int x] := jo_ro (fun n h t nr rs X Y q => by
  obtain ⟨s, r1, r2, r3, ⟨⟨a1, -⟩, a2, -⟩, -⟩ := q.cl
  obtain ⟨⟨⟨m1, -⟩, m2, -⟩, -⟩ := q.mo
  refine ⟨_, t_Db_warm 197 q.1 r1 r3 x, (t_Mo_warm 197 q.1 x).mono (fun r h' e => ⟨?_, e.2⟩)⟩
  rw [e.1, a1, m1]
  by_cases c : 0 < nI X.1.1.1 ∧ ¬ x < 0
  · rw [if_pos c, if_pos c]
    by_cases c2 : x < 100
    · rw [if_pos c2, if_pos ⟨c.2, c2⟩]
      obtain ⟨j, hj, rfl⟩ := nI_of c.2
      have hj2 : j < 100 := (nI_ltI (b := 100) hj (by decide)).mp c2
      rw [nI_clamp hj, a2 j hj2, m2 j hj2]
    · rw [if_neg c2, if_neg (fun z => c2 z.2)]
  · rw [if_neg c, if_neg c])
set_option maxHeartbeats 2000000 in
theorem t_Db_mile_n (d : Nat) {bc bs : Nat} {h : jx_H} {s : Nat} (H : jx_St h) (hr : h.2.2.2 26 0 = some s) (P : jx_Sp h s) (x y : Int32) (hM : ¬ (¬ x < 0 ∧ x < h.2.1 s 0)) : jx_Tr (d + 3) bc bs 7 [.ref 1, .int x, .int y] h (fun r h' => r = some (.int (-100)) ∧ h' = h) := by
  refine jx_tr jM_Db_mile rfl rfl (lv := [some (.ref 1), some (.int x), some (.int y)]) rfl ?_
  refine je_aload0 (pc := 0) d7_0 rfl ?_
  refine je_iload1 (pc := 1) d7_1 rfl ?_
  refine ju_callv (pc := 2) (as := [_]) d7_2 jL_0_120 jM_Db_isMile rfl (by decide) (sK1 H) rfl (by exact Nat.le_of_ble_eq_true rfl) (t_Db_isMile (d + 1) H hr P _) (fun r2 h2 q2 => ?_)
  obtain ⟨rfl, e2⟩ := q2
  obtain rfl := e2.symm
  refine je_ifne (pc := 5) 11 d7_5 (by decide) (fun c5 => absurd (b2_f hM) c5) (fun c5 => ?_)
  refine je_bipush (pc := 8) (v := -100) d7_8 rfl ?_
  refine je_iret (pc := 10) d7_10 rfl ?_
  exact ⟨rfl, rfl⟩
set_option maxHeartbeats 2000000 in
theorem t_Mo_mile_n (d : Nat) {bc bs : Nat} {h : jx_H} {mi : Nat} (H : jx_St h) (x y : Int32) (hm : h.2.1 254 0 = nI mi) (hmi : mi ≤ 10) (hM : ¬ isM x mi) : jx_Tr (d + 4) bc bs 12041 [.ref 253, .int x, .int y] h (fun r h' => r = some (.int (-100)) ∧ h' = h) := by
  refine jx_tr jM_Mo_mile rfl rfl (lv := [some (.ref 253), some (.int x), some (.int y), none, none]) rfl ?_
  refine je_aload0 (pc := 0) d12041_0 rfl ?_
  refine je_iload1 (pc := 1) d12041_1 rfl ?_
  refine ju_callv (pc := 2) (as := [_]) d12041_2 jL_12_178 jM_Mo_isMile rfl (by decide) (sK253 H) rfl (by exact Nat.le_of_ble_eq_true rfl) (t_Mo_isMile (d + 1) H _ hm (by omega)) (fun r2 h2 q2 => ?_)
  obtain ⟨rfl, e2⟩ := q2
  obtain rfl := e2.symm
  refine je_ifne (pc := 5) 11 d12041_5 (by decide) (fun c5 => absurd (b2_f hM) c5) (fun c5 => ?_)
  refine je_bipush (pc := 8) (v := -100) d12041_8 rfl ?_
  refine je_iret (pc := 10) d12041_10 rfl ?_
  exact ⟨rfl, rfl⟩
theorem mo_mile_loop {d bc bs j nv : Nat} {h : jx_H} {Q : Option Value → jx_H → Prop} (H : jx_St h) (y : Int32) (hv : h.2.1 254 2 = nI nv) (hnv : nv ≤ 8) (hQ : Q (some (.int (mk_in (h.2.1 259) (nI j) nv))) h) : jx_Ev d bc bs 12041 88 [some (.ref 253), some (.int (nI j)), some (.int y), some (.int 0), some (.int 0)] [] h Q := by
  refine je_loop (σ := Unit) nv (fun k _ => [some (.ref 253), some (.int (nI j)), some (.int y), some (.int (mk_in (h.2.1 259) (nI j) k)), some (.int (nI k))]) (fun _ _ h' => h' = h) (fun k _ h' hk e kk => ?_) (fun _ h' e => ?_) 0 () h (by omega) rfl
  · obtain rfl := e.symm
    refine je_iload (pc := 88) d12041_88 rfl ?_
    refine je_aload0 (pc := 90) d12041_90 rfl ?_
    refine ju_getr (pc := 91) (b := 254) d12041_91 jF_12_9 rfl (sK253 H) (sR253_1 H) ?_
    refine je_iconst (pc := 94) (v := 2) d12041_94 rfl ?_
    refine ju_iald (pc := 95) (jn := 2) d12041_95 (sK254 H) (by first | assumption | exact jx_ok_dec (by decide)) (by decide) ?_
    refine ju_icge (pc := 96) 127 d12041_96 (by decide) (fun c96 => absurd c96 (by rw [hv]; exact fun z => z (nI_lt hk (by omega)))) (fun c96 => ?_)
    refine je_iload3 (pc := 99) d12041_99 rfl ?_
    refine je_aload0 (pc := 100) d12041_100 rfl ?_
    refine ju_getr (pc := 101) (b := 259) d12041_101 jF_12_25 rfl (sK253 H) (sR253_6 H) ?_
    refine je_iload (pc := 104) d12041_104 rfl ?_
    refine ju_iald (pc := 106) (jn := k) d12041_106 (sK259 H) (vp_in_nI (by omega) (by decide)) (nI_clamp (by omega)) ?_
    refine je_iload1 (pc := 107) d12041_107 rfl ?_
    refine je_icne (pc := 108) 118 d12041_108 (by decide) (fun c108 => ?_) (fun c108 => ?_)
    · refine je_iconst (pc := 118) (v := 0) d12041_118 rfl ?_
      refine je_ior (pc := 119) d12041_119 ?_
      refine ju_istore3 (pc := 120) (lv' := [some _, some _, some _, some _, some _]) d12041_120 rfl rfl ?_
      refine ju_inc (pc := 121) (y := 1) (lv' := [some _, some _, some _, some _, some _]) d12041_121 rfl rfl rfl ?_
      refine je_goto (pc := 124) 88 d12041_124 (by decide) ?_
      have e1 : mk_in (h.2.1 259) (nI j) (k + 1) = mk_in (h.2.1 259) (nI j) k := by rw [mk_in, if_neg c108]
      rw [or0, nI_1 k, ← e1]
      exact kk () h rfl
    · refine je_iconst (pc := 111) (v := 1) d12041_111 rfl ?_
      refine je_iload (pc := 112) d12041_112 rfl ?_
      refine je_ishl (pc := 114) d12041_114 ?_
      refine je_goto (pc := 115) 119 d12041_115 (by decide) ?_
      refine je_ior (pc := 119) d12041_119 ?_
      refine ju_istore3 (pc := 120) (lv' := [some _, some _, some _, some _, some _]) d12041_120 rfl rfl ?_
      refine ju_inc (pc := 121) (y := 1) (lv' := [some _, some _, some _, some _, some _]) d12041_121 rfl rfl rfl ?_
      refine je_goto (pc := 124) 88 d12041_124 (by decide) ?_
      have e1 : mk_in (h.2.1 259) (nI j) (k + 1) = mk_in (h.2.1 259) (nI j) k ||| (1 <<< (nI k &&& 31)) := by rw [mk_in, if_pos c108]
      rw [nI_1 k, ← e1]
      exact kk () h rfl
  · obtain rfl := e.symm
    refine je_iload (pc := 88) d12041_88 rfl ?_
    refine je_aload0 (pc := 90) d12041_90 rfl ?_
    refine ju_getr (pc := 91) (b := 254) d12041_91 jF_12_9 rfl (sK253 H) (sR253_1 H) ?_
    refine je_iconst (pc := 94) (v := 2) d12041_94 rfl ?_
    refine ju_iald (pc := 95) (jn := 2) d12041_95 (sK254 H) (by first | assumption | exact jx_ok_dec (by decide)) (by decide) ?_
    refine ju_icge (pc := 96) 127 d12041_96 (by decide) (fun c96 => ?_) (fun c96 => absurd c96 (by rw [hv]; exact nI_nlt (Nat.le_refl nv) (by omega)))
    refine je_iload3 (pc := 127) d12041_127 rfl ?_
    refine je_iret (pc := 128) d12041_128 rfl ?_
    exact hQ
set_option maxHeartbeats 2000000 in
theorem t_Mo_mile (d : Nat) {bc bs : Nat} {h : jx_H} {j mi nv : Nat} (H : jx_St h) (y : Int32) (hm : h.2.1 254 0 = nI mi) (hj : j < mi) (hmi : mi ≤ 10) (hv : h.2.1 254 2 = nI nv) (hnv : nv ≤ 8) : jx_Tr (d + 4) bc bs 12041 [.ref 253, .int (nI j), .int y] h (fun r h' => r = some (.int (if y = 0 then h.2.1 255 j else if y = 1 then h.2.1 256 j else if y = 2 then h.2.1 257 j else if y = 3 then b2 (bkd (h.2.1 254 4) (nI j)) else if y = 4 then mk_in (h.2.1 259) (nI j) nv else -100)) ∧ h' = h) := by
  refine jx_tr jM_Mo_mile rfl rfl (lv := [some (.ref 253), some (.int (nI j)), some (.int y), none, none]) rfl ?_
  have okj : jx_ok (nI j) 10 := vp_in_nI (by omega) (by decide)
  have ej : (nI j).toNatClampNeg = j := nI_clamp (by omega)
  have hM : isM (nI j) mi := isM_nI hj (by omega)
  refine je_aload0 (pc := 0) d12041_0 rfl ?_
  refine je_iload1 (pc := 1) d12041_1 rfl ?_
  refine ju_callv (pc := 2) (as := [_]) d12041_2 jL_12_178 jM_Mo_isMile rfl (by decide) (sK253 H) rfl (by exact Nat.le_of_ble_eq_true rfl) (t_Mo_isMile (d + 1) H _ hm (by omega)) (fun r2 h2 q2 => ?_)
  obtain ⟨rfl, e2⟩ := q2
  obtain rfl := e2.symm
  refine je_ifne (pc := 5) 11 d12041_5 (by decide) (fun c5 => ?_) (fun c5 => absurd c5 (by rw [b2_t hM]; decide))
  refine je_iload2 (pc := 11) d12041_11 rfl ?_
  by_cases s12_0 : y = 0
  · refine je_table (pc := 12) 48 d12041_12 (by rw [s12_0]; decide) (by rw [s12_0]; decide) (off := 36) (by rw [s12_0]; rfl) (by decide) ?_
    refine je_aload0 (pc := 48) d12041_48 rfl ?_
    refine ju_getr (pc := 49) (b := 255) d12041_49 jF_12_13 rfl (sK253 H) (sR253_2 H) ?_
    refine je_iload1 (pc := 52) d12041_52 rfl ?_
    refine ju_iald (pc := 53) (jn := j) d12041_53 (sK255 H) (by first | assumption | exact jx_ok_dec (by decide)) ej ?_
    refine je_iret (pc := 54) d12041_54 rfl ?_
    exact ⟨by rw [if_pos s12_0], rfl⟩
  by_cases s12_1 : y = 1
  · refine je_table (pc := 12) 55 d12041_12 (by rw [s12_1]; decide) (by rw [s12_1]; decide) (off := 43) (by rw [s12_1]; rfl) (by decide) ?_
    refine je_aload0 (pc := 55) d12041_55 rfl ?_
    refine ju_getr (pc := 56) (b := 256) d12041_56 jF_12_16 rfl (sK253 H) (sR253_3 H) ?_
    refine je_iload1 (pc := 59) d12041_59 rfl ?_
    refine ju_iald (pc := 60) (jn := j) d12041_60 (sK256 H) (by first | assumption | exact jx_ok_dec (by decide)) ej ?_
    refine je_iret (pc := 61) d12041_61 rfl ?_
    exact ⟨by rw [if_neg s12_0, if_pos s12_1], rfl⟩
  by_cases s12_2 : y = 2
  · refine je_table (pc := 12) 62 d12041_12 (by rw [s12_2]; decide) (by rw [s12_2]; decide) (off := 50) (by rw [s12_2]; rfl) (by decide) ?_
    refine je_aload0 (pc := 62) d12041_62 rfl ?_
    refine ju_getr (pc := 63) (b := 257) d12041_63 jF_12_19 rfl (sK253 H) (sR253_4 H) ?_
    refine je_iload1 (pc := 66) d12041_66 rfl ?_
    refine ju_iald (pc := 67) (jn := j) d12041_67 (sK257 H) (by first | assumption | exact jx_ok_dec (by decide)) ej ?_
    refine je_iret (pc := 68) d12041_68 rfl ?_
    exact ⟨by rw [if_neg s12_0, if_neg s12_1, if_pos s12_2], rfl⟩
  by_cases s12_3 : y = 3
  · refine je_table (pc := 12) 69 d12041_12 (by rw [s12_3]; decide) (by rw [s12_3]; decide) (off := 57) (by rw [s12_3]; rfl) (by decide) ?_
    refine je_aload0 (pc := 69) d12041_69 rfl ?_
    refine je_iload1 (pc := 70) d12041_70 rfl ?_
    refine ju_callv (pc := 71) (as := [_]) d12041_71 jL_12_182 jM_Mo_isBaked rfl (by decide) (sK253 H) rfl (by exact Nat.le_of_ble_eq_true rfl) (t_Mo_isBaked (d + 1) H _) (fun r71 h71 q71 => ?_)
    obtain ⟨rfl, e71⟩ := q71
    obtain rfl := e71.symm
    refine je_ifeq (pc := 74) 81 d12041_74 (by decide) (fun c74 => ?_) (fun c74 => ?_)
    · refine je_iconst (pc := 81) (v := 0) d12041_81 rfl ?_
      refine je_iret (pc := 82) d12041_82 rfl ?_
      exact ⟨by rw [if_neg s12_0, if_neg s12_1, if_neg s12_2, if_pos s12_3, b2_f (b2_0.mp c74)], rfl⟩
    · refine je_iconst (pc := 77) (v := 1) d12041_77 rfl ?_
      refine je_goto (pc := 78) 82 d12041_78 (by decide) ?_
      refine je_iret (pc := 82) d12041_82 rfl ?_
      exact ⟨by rw [if_neg s12_0, if_neg s12_1, if_neg s12_2, if_pos s12_3, b2_t (Decidable.not_not.mp (fun z => c74 (b2_0.mpr z)))], rfl⟩
  by_cases s12_4 : y = 4
  · refine je_table (pc := 12) 83 d12041_12 (by rw [s12_4]; decide) (by rw [s12_4]; decide) (off := 71) (by rw [s12_4]; rfl) (by decide) ?_
    refine je_iconst (pc := 83) (v := 0) d12041_83 rfl ?_
    refine ju_istore3 (pc := 84) (lv' := [some _, some _, some _, some _, none]) d12041_84 rfl rfl ?_
    refine je_iconst (pc := 85) (v := 0) d12041_85 rfl ?_
    refine ju_istore (pc := 86) (lv' := [some _, some _, some _, some _, some _]) d12041_86 rfl rfl ?_
    exact mo_mile_loop H y hv hnv ⟨by rw [if_neg s12_0, if_neg s12_1, if_neg s12_2, if_neg s12_3, if_pos s12_4], rfl⟩
  have ns12_0 := lv_neT s12_0 (a := 0) rfl
  have ns12_1 := lv_neT s12_1 (a := 1) rfl
  have ns12_2 := lv_neT s12_2 (a := 2) rfl
  have ns12_3 := lv_neT s12_3 (a := 3) rfl
  have ns12_4 := lv_neT s12_4 (a := 4) rfl
  refine je_tableO (pc := 12) 129 d12041_12 (by omega) (by decide) ?_
  refine je_bipush (pc := 129) (v := -100) d12041_129 rfl ?_
  refine je_iret (pc := 131) d12041_131 rfl ?_
  exact ⟨by rw [if_neg s12_0, if_neg s12_1, if_neg s12_2, if_neg s12_3, if_neg s12_4], rfl⟩
theorem mk_in_congr {f g : Nat → Int32} {m : Int32} : ∀ {n : Nat}, (∀ v, v < n → f v = g v) → mk_in f m n = mk_in g m n
  | 0, _ => rfl
  | n + 1, e => by rw [mk_in, mk_in, mk_in_congr (fun v hv => e v (by omega)), e n (by omega)]
theorem op_mile (x y : Int32) : jo Inv 7 12041 [.int x, .int y] := jo_ro (fun n h t nr rs X Y q => by
  obtain ⟨s, r1, r2, r3, ⟨⟨a1, -⟩, -, -, a4, -⟩, l1, l2, l3, l4, l5, l6⟩ := q.cl
  obtain ⟨⟨⟨m1, -, m3, -⟩, -, m5, -⟩, ⟨k1, k2, k3, k4⟩⟩ := q.mo
  obtain ⟨b1, b2', b3⟩ := q.mi
  by_cases hM : isM x X.1.1.1
  · obtain ⟨j, hj, rfl⟩ := isM_of hM (by omega)
    refine ⟨_, t_Db_mile 196 q.1 r1 r3 y a1 hj b1, (t_Mo_mile 195 q.1 y m1 hj b1 m3 b2').mono (fun r h' e => ⟨?_, e.2⟩)⟩
    have e4 : mk_in (h.2.1 259) (nI j) X.1.1.2.1 = h.2.1 (s + 5) j := by rw [a4 j (by omega)]; exact mk_in_congr (fun v hv => (m5 v hv).1)
    rw [e.1, e4, (k1 j (by omega)).1, (k1 j (by omega)).2.1, (k1 j (by omega)).2.2, k3, l1 j (by omega), l2 j (by omega), l3 j (by omega), l5]
  · exact ⟨_, t_Db_mile_n 196 q.1 r1 r3 x y (by rw [a1]; exact hM), t_Mo_mile_n 195 q.1 x y m1 b1 hM⟩)
set_option maxHeartbeats 2000000 in
theorem t_Db_village_n (d : Nat) {bc bs : Nat} {h : jx_H} {s : Nat} (H : jx_St h) (hr : h.2.2.2 26 0 = some s) (P : jx_Sp h s) (x y : Int32) (hM : ¬ (¬ x < 0 ∧ x < h.2.1 s 2)) : jx_Tr (d + 3) bc bs 9 [.ref 1, .int x, .int y] h (fun r h' => r = some (.int (-100)) ∧ h' = h) := by
  refine jx_tr jM_Db_village rfl rfl (lv := [some (.ref 1), some (.int x), some (.int y)]) rfl ?_
  refine je_aload0 (pc := 0) d9_0 rfl ?_
  refine je_iload1 (pc := 1) d9_1 rfl ?_
  refine ju_callv (pc := 2) (as := [_]) d9_2 jL_0_150 jM_Db_isVillage rfl (by decide) (sK1 H) rfl (by exact Nat.le_of_ble_eq_true rfl) (t_Db_isVillage (d + 1) H hr P _) (fun r2 h2 q2 => ?_)
  obtain ⟨rfl, e2⟩ := q2
  obtain rfl := e2.symm
  refine je_ifne (pc := 5) 11 d9_5 (by decide) (fun c5 => absurd (b2_f hM) c5) (fun c5 => ?_)
  refine je_bipush (pc := 8) (v := -100) d9_8 rfl ?_
  refine je_iret (pc := 10) d9_10 rfl ?_
  exact ⟨rfl, rfl⟩
set_option maxHeartbeats 2000000 in
theorem t_Mo_village_n (d : Nat) {bc bs : Nat} {h : jx_H} {mi : Nat} (H : jx_St h) (x y : Int32) (hm : h.2.1 254 2 = nI mi) (hmi : mi ≤ 10) (hM : ¬ isM x mi) : jx_Tr (d + 4) bc bs 12045 [.ref 253, .int x, .int y] h (fun r h' => r = some (.int (-100)) ∧ h' = h) := by
  refine jx_tr jM_Mo_village rfl rfl (lv := [some (.ref 253), some (.int x), some (.int y)]) rfl ?_
  refine je_aload0 (pc := 0) d12045_0 rfl ?_
  refine je_iload1 (pc := 1) d12045_1 rfl ?_
  refine ju_callv (pc := 2) (as := [_]) d12045_2 jL_12_397 jM_Mo_isVillage rfl (by decide) (sK253 H) rfl (by exact Nat.le_of_ble_eq_true rfl) (t_Mo_isVillage (d + 1) H _ hm (by omega)) (fun r2 h2 q2 => ?_)
  obtain ⟨rfl, e2⟩ := q2
  obtain rfl := e2.symm
  refine je_ifne (pc := 5) 11 d12045_5 (by decide) (fun c5 => absurd (b2_f hM) c5) (fun c5 => ?_)
  refine je_bipush (pc := 8) (v := -100) d12045_8 rfl ?_
  refine je_iret (pc := 10) d12045_10 rfl ?_
  exact ⟨rfl, rfl⟩
set_option maxHeartbeats 2000000 in
theorem t_Db_village (d : Nat) {bc bs : Nat} {h : jx_H} {s : Nat} (H : jx_St h) (hr : h.2.2.2 26 0 = some s) (P : jx_Sp h s) {j mi m : Nat} (y : Int32) (hm : h.2.1 s 2 = nI mi) (hj : j < mi) (hmi : mi ≤ 8) (hm10 : m < 10) (em : h.2.1 (s + 2) j = nI m) : jx_Tr (d + 3) bc bs 9 [.ref 1, .int (nI j), .int y] h (fun r h' => r = some (.int (if y = 0 then h.2.1 (s + 2) j else if y = 1 then h.2.1 (s + 3) j else if y = 2 then h.2.1 (s + 4) j else if y = 3 then sdV (h.2.1 41 m) (h.2.1 (s + 3) j) else if y = 4 then h.2.1 44 j else -100)) ∧ h' = h) := by
  refine jx_tr jM_Db_village rfl rfl (lv := [some (.ref 1), some (.int (nI j)), some (.int y)]) rfl ?_
  have okj : jx_ok (nI j) 8 := vp_in_nI (by omega) (by decide)
  have ej : (nI j).toNatClampNeg = j := nI_clamp (by omega)
  have hM : ¬ nI j < 0 ∧ nI j < h.2.1 s 2 := by rw [hm]; exact isM_nI hj (by omega)
  refine je_aload0 (pc := 0) d9_0 rfl ?_
  refine je_iload1 (pc := 1) d9_1 rfl ?_
  refine ju_callv (pc := 2) (as := [_]) d9_2 jL_0_150 jM_Db_isVillage rfl (by decide) (sK1 H) rfl (by exact Nat.le_of_ble_eq_true rfl) (t_Db_isVillage (d + 1) H hr P _) (fun r2 h2 q2 => ?_)
  obtain ⟨rfl, e2⟩ := q2
  obtain rfl := e2.symm
  refine je_ifne (pc := 5) 11 d9_5 (by decide) (fun c5 => ?_) (fun c5 => absurd c5 (by rw [b2_t hM]; decide))
  refine je_iload2 (pc := 11) d9_11 rfl ?_
  by_cases s12_0 : y = 0
  · refine je_table (pc := 12) 48 d9_12 (by rw [s12_0]; decide) (by rw [s12_0]; decide) (off := 36) (by rw [s12_0]; rfl) (by decide) ?_
    refine je_aload0 (pc := 48) d9_48 rfl ?_
    refine ju_getr (pc := 49) (b := 26) d9_49 jF_0_41 rfl (sK1 H) (sR1_5 H) ?_
    refine ju_getr (pc := 52) (b := s) d9_52 jF_0_143 rfl (sK26 H) hr ?_
    refine ju_getr (pc := 55) (b := (s + 2)) d9_55 jF_0_153 rfl P.1.1 P.1.2.2.1.2 ?_
    refine je_iload1 (pc := 58) d9_58 rfl ?_
    refine ju_iald (pc := 59) (jn := j) d9_59 P.1.2.2.1.1 (by first | assumption | exact jx_ok_dec (by decide)) ej ?_
    refine je_iret (pc := 60) d9_60 rfl ?_
    exact ⟨by rw [if_pos s12_0], rfl⟩
  by_cases s12_1 : y = 1
  · refine je_table (pc := 12) 61 d9_12 (by rw [s12_1]; decide) (by rw [s12_1]; decide) (off := 49) (by rw [s12_1]; rfl) (by decide) ?_
    refine je_aload0 (pc := 61) d9_61 rfl ?_
    refine ju_getr (pc := 62) (b := 26) d9_62 jF_0_41 rfl (sK1 H) (sR1_5 H) ?_
    refine ju_getr (pc := 65) (b := s) d9_65 jF_0_143 rfl (sK26 H) hr ?_
    refine ju_getr (pc := 68) (b := (s + 3)) d9_68 jF_0_156 rfl P.1.1 P.1.2.2.2.1.2 ?_
    refine je_iload1 (pc := 71) d9_71 rfl ?_
    refine ju_iald (pc := 72) (jn := j) d9_72 P.1.2.2.2.1.1 (by first | assumption | exact jx_ok_dec (by decide)) ej ?_
    refine je_iret (pc := 73) d9_73 rfl ?_
    exact ⟨by rw [if_neg s12_0, if_pos s12_1], rfl⟩
  by_cases s12_2 : y = 2
  · refine je_table (pc := 12) 74 d9_12 (by rw [s12_2]; decide) (by rw [s12_2]; decide) (off := 62) (by rw [s12_2]; rfl) (by decide) ?_
    refine je_aload0 (pc := 74) d9_74 rfl ?_
    refine ju_getr (pc := 75) (b := 26) d9_75 jF_0_41 rfl (sK1 H) (sR1_5 H) ?_
    refine ju_getr (pc := 78) (b := s) d9_78 jF_0_143 rfl (sK26 H) hr ?_
    refine ju_getr (pc := 81) (b := (s + 4)) d9_81 jF_0_159 rfl P.1.1 P.1.2.2.2.2.1.2 ?_
    refine je_iload1 (pc := 84) d9_84 rfl ?_
    refine ju_iald (pc := 85) (jn := j) d9_85 P.1.2.2.2.2.1.1 (by first | assumption | exact jx_ok_dec (by decide)) ej ?_
    refine je_iret (pc := 86) d9_86 rfl ?_
    exact ⟨by rw [if_neg s12_0, if_neg s12_1, if_pos s12_2], rfl⟩
  by_cases s12_3 : y = 3
  · refine je_table (pc := 12) 87 d9_12 (by rw [s12_3]; decide) (by rw [s12_3]; decide) (off := 75) (by rw [s12_3]; rfl) (by decide) ?_
    refine je_aload0 (pc := 87) d9_87 rfl ?_
    refine ju_getr (pc := 88) (b := 26) d9_88 jF_0_41 rfl (sK1 H) (sR1_5 H) ?_
    refine ju_getr (pc := 91) (b := s) d9_91 jF_0_143 rfl (sK26 H) hr ?_
    refine je_aload0 (pc := 94) d9_94 rfl ?_
    refine ju_getr (pc := 95) (b := 26) d9_95 jF_0_41 rfl (sK1 H) (sR1_5 H) ?_
    refine ju_getr (pc := 98) (b := 40) d9_98 jF_0_124 rfl (sK26 H) (sR26_1 H) ?_
    refine je_iload1 (pc := 101) d9_101 rfl ?_
    refine ju_callv (pc := 102) (as := [_, _]) d9_102 jL_0_162 jM_St_sideOf rfl (by decide) P.1.1 rfl (by exact Nat.le_of_ble_eq_true rfl) (t_St_sideOf (d + 1) P (sL40 H) (by omega) hm10 em) (fun r102 h102 q102 => ?_)
    obtain ⟨rfl, e102⟩ := q102
    obtain rfl := e102.symm
    refine je_iret (pc := 105) d9_105 rfl ?_
    exact ⟨by rw [if_neg s12_0, if_neg s12_1, if_neg s12_2, if_pos s12_3], rfl⟩
  by_cases s12_4 : y = 4
  · refine je_table (pc := 12) 106 d9_12 (by rw [s12_4]; decide) (by rw [s12_4]; decide) (off := 94) (by rw [s12_4]; rfl) (by decide) ?_
    refine je_aload0 (pc := 106) d9_106 rfl ?_
    refine ju_getr (pc := 107) (b := 26) d9_107 jF_0_41 rfl (sK1 H) (sR1_5 H) ?_
    refine ju_getr (pc := 110) (b := 40) d9_110 jF_0_124 rfl (sK26 H) (sR26_1 H) ?_
    refine ju_getr (pc := 113) (b := 44) d9_113 jF_0_166 rfl (sK40 H) (sR40_3 H) ?_
    refine je_iload1 (pc := 116) d9_116 rfl ?_
    refine ju_iald (pc := 117) (jn := j) d9_117 (sK44 H) (by first | assumption | exact jx_ok_dec (by decide)) ej ?_
    refine je_iret (pc := 118) d9_118 rfl ?_
    exact ⟨by rw [if_neg s12_0, if_neg s12_1, if_neg s12_2, if_neg s12_3, if_pos s12_4], rfl⟩
  have ns12_0 := lv_neT s12_0 (a := 0) rfl
  have ns12_1 := lv_neT s12_1 (a := 1) rfl
  have ns12_2 := lv_neT s12_2 (a := 2) rfl
  have ns12_3 := lv_neT s12_3 (a := 3) rfl
  have ns12_4 := lv_neT s12_4 (a := 4) rfl
  refine je_tableO (pc := 12) 119 d9_12 (by omega) (by decide) ?_
  refine je_bipush (pc := 119) (v := -100) d9_119 rfl ?_
  refine je_iret (pc := 121) d9_121 rfl ?_
  exact ⟨by rw [if_neg s12_0, if_neg s12_1, if_neg s12_2, if_neg s12_3, if_neg s12_4], rfl⟩
set_option maxHeartbeats 2000000 in
theorem t_Mo_village (d : Nat) {bc bs : Nat} {h : jx_H} {j mi m : Nat} (H : jx_St h) (y : Int32) (hm : h.2.1 254 2 = nI mi) (hj : j < mi) (hmi : mi ≤ 8) (hm10 : m < 10) (em : h.2.1 259 j = nI m) : jx_Tr (d + 4) bc bs 12045 [.ref 253, .int (nI j), .int y] h (fun r h' => r = some (.int (if y = 0 then h.2.1 259 j else if y = 1 then h.2.1 260 j else if y = 2 then h.2.1 261 j else if y = 3 then sdV (h.2.1 255 m) (h.2.1 260 j) else if y = 4 then h.2.1 262 j else -100)) ∧ h' = h) := by
  refine jx_tr jM_Mo_village rfl rfl (lv := [some (.ref 253), some (.int (nI j)), some (.int y)]) rfl ?_
  have okj : jx_ok (nI j) 8 := vp_in_nI (by omega) (by decide)
  have ej : (nI j).toNatClampNeg = j := nI_clamp (by omega)
  have hM : isM (nI j) mi := isM_nI hj (by omega)
  refine je_aload0 (pc := 0) d12045_0 rfl ?_
  refine je_iload1 (pc := 1) d12045_1 rfl ?_
  refine ju_callv (pc := 2) (as := [_]) d12045_2 jL_12_397 jM_Mo_isVillage rfl (by decide) (sK253 H) rfl (by exact Nat.le_of_ble_eq_true rfl) (t_Mo_isVillage (d + 1) H _ hm (by omega)) (fun r2 h2 q2 => ?_)
  obtain ⟨rfl, e2⟩ := q2
  obtain rfl := e2.symm
  refine je_ifne (pc := 5) 11 d12045_5 (by decide) (fun c5 => ?_) (fun c5 => absurd c5 (by rw [b2_t hM]; decide))
  refine je_iload2 (pc := 11) d12045_11 rfl ?_
  by_cases s12_0 : y = 0
  · refine je_table (pc := 12) 48 d12045_12 (by rw [s12_0]; decide) (by rw [s12_0]; decide) (off := 36) (by rw [s12_0]; rfl) (by decide) ?_
    refine je_aload0 (pc := 48) d12045_48 rfl ?_
    refine ju_getr (pc := 49) (b := 259) d12045_49 jF_12_25 rfl (sK253 H) (sR253_6 H) ?_
    refine je_iload1 (pc := 52) d12045_52 rfl ?_
    refine ju_iald (pc := 53) (jn := j) d12045_53 (sK259 H) (by first | assumption | exact jx_ok_dec (by decide)) ej ?_
    refine je_iret (pc := 54) d12045_54 rfl ?_
    exact ⟨by rw [if_pos s12_0], rfl⟩
  by_cases s12_1 : y = 1
  · refine je_table (pc := 12) 55 d12045_12 (by rw [s12_1]; decide) (by rw [s12_1]; decide) (off := 43) (by rw [s12_1]; rfl) (by decide) ?_
    refine je_aload0 (pc := 55) d12045_55 rfl ?_
    refine ju_getr (pc := 56) (b := 260) d12045_56 jF_12_28 rfl (sK253 H) (sR253_7 H) ?_
    refine je_iload1 (pc := 59) d12045_59 rfl ?_
    refine ju_iald (pc := 60) (jn := j) d12045_60 (sK260 H) (by first | assumption | exact jx_ok_dec (by decide)) ej ?_
    refine je_iret (pc := 61) d12045_61 rfl ?_
    exact ⟨by rw [if_neg s12_0, if_pos s12_1], rfl⟩
  by_cases s12_2 : y = 2
  · refine je_table (pc := 12) 62 d12045_12 (by rw [s12_2]; decide) (by rw [s12_2]; decide) (off := 50) (by rw [s12_2]; rfl) (by decide) ?_
    refine je_aload0 (pc := 62) d12045_62 rfl ?_
    refine ju_getr (pc := 63) (b := 261) d12045_63 jF_12_31 rfl (sK253 H) (sR253_8 H) ?_
    refine je_iload1 (pc := 66) d12045_66 rfl ?_
    refine ju_iald (pc := 67) (jn := j) d12045_67 (sK261 H) (by first | assumption | exact jx_ok_dec (by decide)) ej ?_
    refine je_iret (pc := 68) d12045_68 rfl ?_
    exact ⟨by rw [if_neg s12_0, if_neg s12_1, if_pos s12_2], rfl⟩
  by_cases s12_3 : y = 3
  · refine je_table (pc := 12) 69 d12045_12 (by rw [s12_3]; decide) (by rw [s12_3]; decide) (off := 57) (by rw [s12_3]; rfl) (by decide) ?_
    refine je_aload0 (pc := 69) d12045_69 rfl ?_
    refine je_iload1 (pc := 70) d12045_70 rfl ?_
    refine ju_callv (pc := 71) (as := [_]) d12045_71 jL_12_394 jM_Mo_sideOf rfl (by decide) (sK253 H) rfl (by exact Nat.le_of_ble_eq_true rfl) (t_Mo_sideOf (d + 2) H (by omega) hm10 em) (fun r71 h71 q71 => ?_)
    obtain ⟨rfl, e71⟩ := q71
    obtain rfl := e71.symm
    refine je_iret (pc := 74) d12045_74 rfl ?_
    exact ⟨by rw [if_neg s12_0, if_neg s12_1, if_neg s12_2, if_pos s12_3], rfl⟩
  by_cases s12_4 : y = 4
  · refine je_table (pc := 12) 75 d12045_12 (by rw [s12_4]; decide) (by rw [s12_4]; decide) (off := 63) (by rw [s12_4]; rfl) (by decide) ?_
    refine je_aload0 (pc := 75) d12045_75 rfl ?_
    refine ju_getr (pc := 76) (b := 262) d12045_76 jF_12_34 rfl (sK253 H) (sR253_9 H) ?_
    refine je_iload1 (pc := 79) d12045_79 rfl ?_
    refine ju_iald (pc := 80) (jn := j) d12045_80 (sK262 H) (by first | assumption | exact jx_ok_dec (by decide)) ej ?_
    refine je_iret (pc := 81) d12045_81 rfl ?_
    exact ⟨by rw [if_neg s12_0, if_neg s12_1, if_neg s12_2, if_neg s12_3, if_pos s12_4], rfl⟩
  have ns12_0 := lv_neT s12_0 (a := 0) rfl
  have ns12_1 := lv_neT s12_1 (a := 1) rfl
  have ns12_2 := lv_neT s12_2 (a := 2) rfl
  have ns12_3 := lv_neT s12_3 (a := 3) rfl
  have ns12_4 := lv_neT s12_4 (a := 4) rfl
  refine je_tableO (pc := 12) 82 d12045_12 (by omega) (by decide) ?_
  refine je_bipush (pc := 82) (v := -100) d12045_82 rfl ?_
  refine je_iret (pc := 84) d12045_84 rfl ?_
  exact ⟨by rw [if_neg s12_0, if_neg s12_1, if_neg s12_2, if_neg s12_3, if_neg s12_4], rfl⟩
theorem op_village (x y : Int32) : jo Inv 9 12045 [.int x, .int y] := jo_ro (fun n h t nr rs X Y q => by
  obtain ⟨s, r1, r2, r3, ⟨⟨a1, -, a3, -⟩, -, a5, -⟩, l1, l2, l3, l4, l5, l6⟩ := q.cl
  obtain ⟨⟨⟨m1, -, m3, -⟩, -, m5, -⟩, ⟨k1, k2, k3, k4⟩⟩ := q.mo
  obtain ⟨b1, b2', b3⟩ := q.mi
  obtain ⟨-, -, -, -, -, -, ⟨⟨-, -, -, -, -, wv, -⟩, -⟩, -⟩ := id q
  by_cases hM : isM x X.1.1.2.1
  · obtain ⟨j, hj, rfl⟩ := isM_of hM (by omega)
    obtain ⟨⟨m, hm, em⟩, -⟩ := wv j hj
    obtain ⟨c1, c2, c3⟩ := a5 j hj
    obtain ⟨d1, d2, d3⟩ := m5 j hj
    refine ⟨_, t_Db_village 196 q.1 r1 r3 y a3 hj b2' (by omega) (c1.trans em), (t_Mo_village 195 q.1 y m3 hj b2' (by omega) (d1.trans em)).mono (fun r h' e => ⟨?_, e.2⟩)⟩
    rw [e.1, d1, d2, d3, c1, c2, c3, (k1 m (by omega)).1, l1 m (by omega), k2 j (by omega), l4 j (by omega)]
  · exact ⟨_, t_Db_village_n 196 q.1 r1 r3 x y (by rw [a3]; exact hM), t_Mo_village_n 195 q.1 x y m3 (by omega) hM⟩)
