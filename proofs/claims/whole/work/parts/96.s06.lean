/-! a rule told: the steps of a test -/
def mts (h : jx_H) (N sl : Nat) (U : Nat → Int32) (s : RS) (σ : List Int32) (dp : Nat) : Prop := ∃ p, p ≤ N ∧ mtP h N sl U p s σ dp ∧ skB U N p = s.2.1
theorem mtP.av {h : jx_H} {N sl p dp : Nat} {U : Nat → Int32} {s : RS} {σ : List Int32} (B : mtP h N sl U p s σ dp) (f : s.1 = 0) : mtP h N sl U p (avR U N s) σ dp := ⟨B.1.e2 (by rw [av_o f]; exact f.symm) (fun _ => by rw [av_o f]), B.2⟩
theorem wd_35 : wdO 35 = wdO 10 ∧ wdO 36 = wdO 8 ∧ wdO 37 = wdO 9 ∧ (wdO 10).length = 3 ∧ (wdO 8).length = 3 ∧ (wdO 9).length = 2 := by decide +kernel
theorem fg_5 {d bc bs i pc : Nat} {a b c x y : Option Value} {st : List Value} {h : jx_H} {Q : Option Value → jx_H → Prop} (t : jx_Ev d bc bs i pc [a, b, c, none, none] st h Q) : jx_Ev d bc bs i pc [a, b, c, x, y] st h Q := jx_Ev.forget (lv' := [a, b, c, none, none]) rfl (fun k v hk => match k, hk with
  | 0, hk => hk
  | 1, hk => hk
  | 2, hk => hk
  | 3, hk => absurd hk (by simp)
  | 4, hk => absurd hk (by simp)
  | k + 5, hk => absurd hk (by simp)) t
set_option maxHeartbeats 2000000 in
theorem t_Mo_fact_n (d : Nat) {bc bs : Nat} {h : jx_H} {N sl dp : Nat} {U : Nat → Int32} {s : RS} {σ : List Int32} (M : mts h N sl U s σ dp) (f : s.1 = 0) (hN : N ≤ 400) (hsl : sl < 6) (I : iR U N s) (L : σ.length ≤ 300) (c : stW U N s.2.1 (wdO 10)) (hd : dp < 10) : jx_Tr (d + 10) bc bs 12035 [.ref 253] h (fun r h' => r = some (.int 0) ∧ moT sl h h' ∧ mts h' N sl U (avR U N s) (9 :: σ) (dp + 1)) := by
  refine jx_tr jM_Mo_fact rfl rfl (lv := [some (.ref 253)]) rfl ?_
  obtain ⟨p, hp, B, eB⟩ := M
  have hb : s.2.1 ≤ N := by rw [← eB]; exact sk_N hp
  refine je_aload0 (pc := 0) d12035_0 rfl ?_
  refine ju_callv (pc := 1) (as := []) d12035_1 jL_12_237 jM_Mo_blanks rfl (by decide) (sK253 B.1.1.1) rfl (by exact Nat.le_of_ble_eq_true rfl) (t_Mo_blanks_R (d + 7) B.1 hN (by omega)) (fun r1 h1 q1 => ?_)
  obtain ⟨rfl, F1, C1⟩ := q1
  rw [eB] at C1
  have B1 := B.F F1 C1
  refine je_aload0 (pc := 4) d12035_4 rfl ?_
  refine je_ldwS (pc := 5) (e := 35) d12035_5 rfl ?_
  refine ju_callv (pc := 8) (as := [_]) d12035_8 jL_12_240 jM_Mo_stood rfl (by decide) (sK253 B1.1.1.1) rfl (by exact Nat.le_of_ble_eq_true rfl) (t_Mo_stood_R (d + 4) (e := 35) (by decide) B1.1 hN hb) (fun r8 h8 q8 => ?_)
  obtain ⟨rfl, e8⟩ := q8
  obtain rfl := e8.symm
  rw [wd_35.1]
  refine jb_ifeq (pc := 11) 32 d12035_11 (by decide) (fun c11 => absurd c11 (fun z => z c)) (fun c11 => ?_)
  refine je_aload0 (pc := 14) d12035_14 rfl ?_
  refine je_bipush (pc := 15) (v := 9) d12035_15 rfl ?_
  refine ju_callv (pc := 17) (as := [_]) d12035_17 jL_12_296 jM_Mo_opens rfl (by decide) (sK253 B1.1.1.1) rfl (by exact Nat.le_of_ble_eq_true rfl) (t_Mo_opens_9 (d + 7) B1 (by omega) hd) (fun r17 h17 q17 => ?_)
  obtain ⟨rfl, F2, B2⟩ := q17
  refine je_aload0 (pc := 20) d12035_20 rfl ?_
  refine je_dup (pc := 21) d12035_21 rfl ?_
  refine ju_geti (pc := 22) d12035_22 jF_12_217 rfl (sK253 B2.1.1.1) ?_
  refine ju_eqi (v := nI s.2.1) B2.1.2.2.1 ?_
  refine je_iconst (pc := 25) (v := 3) d12035_25 rfl ?_
  refine je_iadd (pc := 26) d12035_26 ?_
  refine ju_eqi (v := nI ((s.2.1) + 3)) (nI_add (s.2.1) 3) ?_
  refine ju_puti (pc := 27) d12035_27 jF_12_217 rfl (sK253 B2.1.1.1) ?_
  refine je_iconst (pc := 30) (v := 0) d12035_30 rfl ?_
  refine je_zret (pc := 31) d12035_31 rfl (by decide) ?_
  have wl := wd_tk c
  rw [wd_35.2.2.2.1] at wl
  have tn := (tk_N (T := U) hb).2
  exact ⟨rfl, (F1.T.tr F2).tr (moT.w (Or.inl rfl)), s.2.1 + 3, by omega, (B2.p (s.2.1 + 3)).av f, by rw [av_o f, wl]⟩
set_option maxHeartbeats 2000000 in
theorem t_Mo_fact_nx (d : Nat) {bc bs : Nat} {h : jx_H} {N sl dp : Nat} {U : Nat → Int32} {s : RS} {σ : List Int32} (M : mts h N sl U s σ dp) (f : s.1 = 0) (hN : N ≤ 400) (hsl : sl < 6) (I : iR U N s) (L : σ.length ≤ 300) (c : stW U N s.2.1 (wdO 10)) (hd : dp = 10) : jx_Tr (d + 10) bc bs 12035 [.ref 253] h (fun r h' => r = some (.int 0) ∧ moT sl h h' ∧ mrB h' N sl U (fltI s.2.1 2)) := by
  refine jx_tr jM_Mo_fact rfl rfl (lv := [some (.ref 253)]) rfl ?_
  obtain ⟨p, hp, B, eB⟩ := M
  have hb : s.2.1 ≤ N := by rw [← eB]; exact sk_N hp
  refine je_aload0 (pc := 0) d12035_0 rfl ?_
  refine ju_callv (pc := 1) (as := []) d12035_1 jL_12_237 jM_Mo_blanks rfl (by decide) (sK253 B.1.1.1) rfl (by exact Nat.le_of_ble_eq_true rfl) (t_Mo_blanks_R (d + 7) B.1 hN (by omega)) (fun r1 h1 q1 => ?_)
  obtain ⟨rfl, F1, C1⟩ := q1
  rw [eB] at C1
  have B1 := B.F F1 C1
  refine je_aload0 (pc := 4) d12035_4 rfl ?_
  refine je_ldwS (pc := 5) (e := 35) d12035_5 rfl ?_
  refine ju_callv (pc := 8) (as := [_]) d12035_8 jL_12_240 jM_Mo_stood rfl (by decide) (sK253 B1.1.1.1) rfl (by exact Nat.le_of_ble_eq_true rfl) (t_Mo_stood_R (d + 4) (e := 35) (by decide) B1.1 hN hb) (fun r8 h8 q8 => ?_)
  obtain ⟨rfl, e8⟩ := q8
  obtain rfl := e8.symm
  rw [wd_35.1]
  refine jb_ifeq (pc := 11) 32 d12035_11 (by decide) (fun c11 => absurd c11 (fun z => z c)) (fun c11 => ?_)
  refine je_aload0 (pc := 14) d12035_14 rfl ?_
  refine je_bipush (pc := 15) (v := 9) d12035_15 rfl ?_
  refine ju_callv (pc := 17) (as := [_]) d12035_17 jL_12_296 jM_Mo_opens rfl (by decide) (sK253 B1.1.1.1) rfl (by exact Nat.le_of_ble_eq_true rfl) (t_Mo_opens_9x (d + 7) B1 (by omega) hd hb hN) (fun r17 h17 q17 => ?_)
  obtain ⟨rfl, F2, B2⟩ := q17
  refine je_aload0 (pc := 20) d12035_20 rfl ?_
  refine je_dup (pc := 21) d12035_21 rfl ?_
  refine ju_geti (pc := 22) d12035_22 jF_12_217 rfl (sK253 B2.1.1) ?_
  refine ju_eqi (v := nI s.2.1) B2.2.2.1 ?_
  refine je_iconst (pc := 25) (v := 3) d12035_25 rfl ?_
  refine je_iadd (pc := 26) d12035_26 ?_
  refine ju_eqi (v := nI ((s.2.1) + 3)) (nI_add (s.2.1) 3) ?_
  refine ju_puti (pc := 27) d12035_27 jF_12_217 rfl (sK253 B2.1.1) ?_
  refine je_iconst (pc := 30) (v := 0) d12035_30 rfl ?_
  refine je_zret (pc := 31) d12035_31 rfl (by decide) ?_
  have wl := wd_tk c
  rw [wd_35.2.2.2.1] at wl
  have tn := (tk_N (T := U) hb).2
  have ef : (flP s.2.1 2 s).1 = fltI s.2.1 2 := congrArg Prod.fst (if_pos f : flP s.2.1 2 s = _)
  rw [← ef]
  exact ⟨rfl, (F1.T.tr F2).tr (moT.w (Or.inl rfl)), (B2.p (s.2.1 + 3)).b (by omega)⟩
set_option maxHeartbeats 2000000 in
theorem t_Mo_fact_b (d : Nat) {bc bs : Nat} {h : jx_H} {N sl dp : Nat} {U : Nat → Int32} {s : RS} {σ : List Int32} (M : mts h N sl U s σ dp) (f : s.1 = 0) (hN : N ≤ 400) (hsl : sl < 6) (I : iR U N s) (L : σ.length ≤ 300) (c : ¬ stW U N s.2.1 (wdO 10)) (cb : tkS U N s.2.1 = 91) (hd : dp < 10) : jx_Tr (d + 10) bc bs 12035 [.ref 253] h (fun r h' => r = some (.int 0) ∧ moT sl h h' ∧ mts h' N sl U (avR U N s) (12 :: σ) (dp + 1)) := by
  refine jx_tr jM_Mo_fact rfl rfl (lv := [some (.ref 253)]) rfl ?_
  obtain ⟨p, hp, B, eB⟩ := M
  have hb : s.2.1 ≤ N := by rw [← eB]; exact sk_N hp
  have x91 : (if s.2.1 < N then U s.2.1 else -1) = 91 := (tk_x (by decide) (by decide) (by decide) (by decide)).mp cb
  obtain ⟨x1, x2⟩ := sgn_lt x91 (by decide)
  have wl := tkE_x (by decide) (by decide) (by decide) x1 x2
  refine je_aload0 (pc := 0) d12035_0 rfl ?_
  refine ju_callv (pc := 1) (as := []) d12035_1 jL_12_237 jM_Mo_blanks rfl (by decide) (sK253 B.1.1.1) rfl (by exact Nat.le_of_ble_eq_true rfl) (t_Mo_blanks_R (d + 7) B.1 hN (by omega)) (fun r1 h1 q1 => ?_)
  obtain ⟨rfl, F1, C1⟩ := q1
  rw [eB] at C1
  have B1 := B.F F1 C1
  refine je_aload0 (pc := 4) d12035_4 rfl ?_
  refine je_ldwS (pc := 5) (e := 35) d12035_5 rfl ?_
  refine ju_callv (pc := 8) (as := [_]) d12035_8 jL_12_240 jM_Mo_stood rfl (by decide) (sK253 B1.1.1.1) rfl (by exact Nat.le_of_ble_eq_true rfl) (t_Mo_stood_R (d + 4) (e := 35) (by decide) B1.1 hN hb) (fun r8 h8 q8 => ?_)
  obtain ⟨rfl, e8⟩ := q8
  obtain rfl := e8.symm
  rw [wd_35.1]
  refine jb_ifeq (pc := 11) 32 d12035_11 (by decide) (fun c11 => ?_) (fun c11 => absurd c11 (fun z => c z))
  refine je_aload0 (pc := 32) d12035_32 rfl ?_
  refine ju_callv (pc := 33) (as := []) d12035_33 jL_12_220 jM_Mo_sign rfl (by decide) (sK253 B1.1.1.1) rfl (by exact Nat.le_of_ble_eq_true rfl) (t_Mo_sign_R (d + 8) B1.1 hN (by omega)) (fun r33 h33 q33 => ?_)
  obtain ⟨rfl, e33⟩ := q33
  obtain rfl := e33.symm
  refine je_bipush (pc := 36) (v := 91) d12035_36 rfl ?_
  refine je_icne (pc := 38) 59 d12035_38 (by decide) (fun c38 => absurd c38 (fun z => z x91)) (fun c38 => ?_)
  refine je_aload0 (pc := 41) d12035_41 rfl ?_
  refine je_bipush (pc := 42) (v := 12) d12035_42 rfl ?_
  refine ju_callv (pc := 44) (as := [_]) d12035_44 jL_12_296 jM_Mo_opens rfl (by decide) (sK253 B1.1.1.1) rfl (by exact Nat.le_of_ble_eq_true rfl) (t_Mo_opens_12 (d + 7) B1 (by omega) hd) (fun r44 h44 q44 => ?_)
  obtain ⟨rfl, F2, B2⟩ := q44
  refine je_aload0 (pc := 47) d12035_47 rfl ?_
  refine je_dup (pc := 48) d12035_48 rfl ?_
  refine ju_geti (pc := 49) d12035_49 jF_12_217 rfl (sK253 B2.1.1.1) ?_
  refine ju_eqi (v := nI s.2.1) B2.1.2.2.1 ?_
  refine je_iconst (pc := 52) (v := 1) d12035_52 rfl ?_
  refine je_iadd (pc := 53) d12035_53 ?_
  refine ju_eqi (v := nI ((s.2.1) + 1)) (nI_add (s.2.1) 1) ?_
  refine ju_puti (pc := 54) d12035_54 jF_12_217 rfl (sK253 B2.1.1.1) ?_
  refine je_iconst (pc := 57) (v := 0) d12035_57 rfl ?_
  refine je_zret (pc := 58) d12035_58 rfl (by decide) ?_
  exact ⟨rfl, (F1.T.tr F2).tr (moT.w (Or.inl rfl)), s.2.1 + 1, by omega, (B2.p (s.2.1 + 1)).av f, by rw [av_o f, wl]⟩
set_option maxHeartbeats 2000000 in
theorem t_Mo_fact_bx (d : Nat) {bc bs : Nat} {h : jx_H} {N sl dp : Nat} {U : Nat → Int32} {s : RS} {σ : List Int32} (M : mts h N sl U s σ dp) (f : s.1 = 0) (hN : N ≤ 400) (hsl : sl < 6) (I : iR U N s) (L : σ.length ≤ 300) (c : ¬ stW U N s.2.1 (wdO 10)) (cb : tkS U N s.2.1 = 91) (hd : dp = 10) : jx_Tr (d + 10) bc bs 12035 [.ref 253] h (fun r h' => r = some (.int 0) ∧ moT sl h h' ∧ mrB h' N sl U (fltI s.2.1 2)) := by
  refine jx_tr jM_Mo_fact rfl rfl (lv := [some (.ref 253)]) rfl ?_
  obtain ⟨p, hp, B, eB⟩ := M
  have hb : s.2.1 ≤ N := by rw [← eB]; exact sk_N hp
  have x91 : (if s.2.1 < N then U s.2.1 else -1) = 91 := (tk_x (by decide) (by decide) (by decide) (by decide)).mp cb
  obtain ⟨x1, x2⟩ := sgn_lt x91 (by decide)
  have wl := tkE_x (by decide) (by decide) (by decide) x1 x2
  refine je_aload0 (pc := 0) d12035_0 rfl ?_
  refine ju_callv (pc := 1) (as := []) d12035_1 jL_12_237 jM_Mo_blanks rfl (by decide) (sK253 B.1.1.1) rfl (by exact Nat.le_of_ble_eq_true rfl) (t_Mo_blanks_R (d + 7) B.1 hN (by omega)) (fun r1 h1 q1 => ?_)
  obtain ⟨rfl, F1, C1⟩ := q1
  rw [eB] at C1
  have B1 := B.F F1 C1
  refine je_aload0 (pc := 4) d12035_4 rfl ?_
  refine je_ldwS (pc := 5) (e := 35) d12035_5 rfl ?_
  refine ju_callv (pc := 8) (as := [_]) d12035_8 jL_12_240 jM_Mo_stood rfl (by decide) (sK253 B1.1.1.1) rfl (by exact Nat.le_of_ble_eq_true rfl) (t_Mo_stood_R (d + 4) (e := 35) (by decide) B1.1 hN hb) (fun r8 h8 q8 => ?_)
  obtain ⟨rfl, e8⟩ := q8
  obtain rfl := e8.symm
  rw [wd_35.1]
  refine jb_ifeq (pc := 11) 32 d12035_11 (by decide) (fun c11 => ?_) (fun c11 => absurd c11 (fun z => c z))
  refine je_aload0 (pc := 32) d12035_32 rfl ?_
  refine ju_callv (pc := 33) (as := []) d12035_33 jL_12_220 jM_Mo_sign rfl (by decide) (sK253 B1.1.1.1) rfl (by exact Nat.le_of_ble_eq_true rfl) (t_Mo_sign_R (d + 8) B1.1 hN (by omega)) (fun r33 h33 q33 => ?_)
  obtain ⟨rfl, e33⟩ := q33
  obtain rfl := e33.symm
  refine je_bipush (pc := 36) (v := 91) d12035_36 rfl ?_
  refine je_icne (pc := 38) 59 d12035_38 (by decide) (fun c38 => absurd c38 (fun z => z x91)) (fun c38 => ?_)
  refine je_aload0 (pc := 41) d12035_41 rfl ?_
  refine je_bipush (pc := 42) (v := 12) d12035_42 rfl ?_
  refine ju_callv (pc := 44) (as := [_]) d12035_44 jL_12_296 jM_Mo_opens rfl (by decide) (sK253 B1.1.1.1) rfl (by exact Nat.le_of_ble_eq_true rfl) (t_Mo_opens_12x (d + 7) B1 (by omega) hd hb hN) (fun r44 h44 q44 => ?_)
  obtain ⟨rfl, F2, B2⟩ := q44
  refine je_aload0 (pc := 47) d12035_47 rfl ?_
  refine je_dup (pc := 48) d12035_48 rfl ?_
  refine ju_geti (pc := 49) d12035_49 jF_12_217 rfl (sK253 B2.1.1) ?_
  refine ju_eqi (v := nI s.2.1) B2.2.2.1 ?_
  refine je_iconst (pc := 52) (v := 1) d12035_52 rfl ?_
  refine je_iadd (pc := 53) d12035_53 ?_
  refine ju_eqi (v := nI ((s.2.1) + 1)) (nI_add (s.2.1) 1) ?_
  refine ju_puti (pc := 54) d12035_54 jF_12_217 rfl (sK253 B2.1.1) ?_
  refine je_iconst (pc := 57) (v := 0) d12035_57 rfl ?_
  refine je_zret (pc := 58) d12035_58 rfl (by decide) ?_
  have ef : (flP s.2.1 2 s).1 = fltI s.2.1 2 := congrArg Prod.fst (if_pos f : flP s.2.1 2 s = _)
  rw [← ef]
  exact ⟨rfl, (F1.T.tr F2).tr (moT.w (Or.inl rfl)), (B2.p (s.2.1 + 1)).b (by omega)⟩
set_option maxHeartbeats 2000000 in
theorem t_Mo_fact_c (d : Nat) {bc bs : Nat} {h : jx_H} {N sl dp : Nat} {U : Nat → Int32} {s : RS} {σ : List Int32} (M : mts h N sl U s σ dp) (f : s.1 = 0) (hN : N ≤ 400) (hsl : sl < 6) (I : iR U N s) (L : σ.length ≤ 300) (hU : bytT U N) (c : ¬ stW U N s.2.1 (wdO 10)) (cb : ¬ tkS U N s.2.1 = 91) : jx_Tr (d + 10) bc bs 12035 [.ref 253] h (fun r h' => r = some (.int 1) ∧ moT sl h h' ∧ ∃ p, p ≤ N ∧ mtP h' N sl U p (cpR U N s) σ dp ∧ ((cpR U N s).1 = 0 → skB U N p = (cpR U N s).2.1)) := by
  refine jx_tr jM_Mo_fact rfl rfl (lv := [some (.ref 253)]) rfl ?_
  obtain ⟨p, hp, B, eB⟩ := M
  have hb : s.2.1 ≤ N := by rw [← eB]; exact sk_N hp
  have x91 : ¬ (if s.2.1 < N then U s.2.1 else -1) = 91 := fun z => cb ((tk_x (by decide) (by decide) (by decide) (by decide)).mpr z)
  refine je_aload0 (pc := 0) d12035_0 rfl ?_
  refine ju_callv (pc := 1) (as := []) d12035_1 jL_12_237 jM_Mo_blanks rfl (by decide) (sK253 B.1.1.1) rfl (by exact Nat.le_of_ble_eq_true rfl) (t_Mo_blanks_R (d + 7) B.1 hN (by omega)) (fun r1 h1 q1 => ?_)
  obtain ⟨rfl, F1, C1⟩ := q1
  rw [eB] at C1
  have B1 := B.F F1 C1
  refine je_aload0 (pc := 4) d12035_4 rfl ?_
  refine je_ldwS (pc := 5) (e := 35) d12035_5 rfl ?_
  refine ju_callv (pc := 8) (as := [_]) d12035_8 jL_12_240 jM_Mo_stood rfl (by decide) (sK253 B1.1.1.1) rfl (by exact Nat.le_of_ble_eq_true rfl) (t_Mo_stood_R (d + 4) (e := 35) (by decide) B1.1 hN hb) (fun r8 h8 q8 => ?_)
  obtain ⟨rfl, e8⟩ := q8
  obtain rfl := e8.symm
  rw [wd_35.1]
  refine jb_ifeq (pc := 11) 32 d12035_11 (by decide) (fun c11 => ?_) (fun c11 => absurd c11 (fun z => c z))
  refine je_aload0 (pc := 32) d12035_32 rfl ?_
  refine ju_callv (pc := 33) (as := []) d12035_33 jL_12_220 jM_Mo_sign rfl (by decide) (sK253 B1.1.1.1) rfl (by exact Nat.le_of_ble_eq_true rfl) (t_Mo_sign_R (d + 8) B1.1 hN (by omega)) (fun r33 h33 q33 => ?_)
  obtain ⟨rfl, e33⟩ := q33
  obtain rfl := e33.symm
  refine je_bipush (pc := 36) (v := 91) d12035_36 rfl ?_
  refine je_icne (pc := 38) 59 d12035_38 (by decide) (fun c38 => ?_) (fun c38 => absurd c38 x91)
  refine je_aload0 (pc := 59) d12035_59 rfl ?_
  refine ju_callv (pc := 60) (as := []) d12035_60 jL_12_299 jM_Mo_compared rfl (by decide) (sK253 B1.1.1.1) rfl (by exact Nat.le_of_ble_eq_true rfl) (t_Mo_compared d (s := s) ⟨s.2.1, hb, B1.1, fun _ => (I.1 f).2.1⟩ hN hsl I hU) (fun r60 h60 q60 => ?_)
  obtain ⟨rfl, F2, p2, h2, C2, e2⟩ := q60
  refine je_iconst (pc := 63) (v := 1) d12035_63 rfl ?_
  refine je_zret (pc := 64) d12035_64 rfl (by decide) ?_
  exact ⟨rfl, F1.T.tr F2.T, p2, h2, B1.F F2 C2, e2⟩
def LPt (d bc bs : Nat) (v : Int32) (h : jx_H) (Q : Option Value → jx_H → Prop) : Prop := jx_Ev (d + 11) bc bs 12034 9 [some (.ref 253), some (.int v), some (.int 1), none, none] [] h Q
def A46 (d bc bs : Nat) (h : jx_H) (Q : Option Value → jx_H → Prop) : Prop := jx_Ev (d + 11) bc bs 12034 46 [some (.ref 253), some (.int 0), some (.int 1), none, none] [] h Q
def A137 (d bc bs : Nat) (h : jx_H) (Q : Option Value → jx_H → Prop) : Prop := jx_Ev (d + 11) bc bs 12034 137 [some (.ref 253), some (.int 0), some (.int 1), none, none] [] h Q
def oneI (x : Int32) : Nat := if x = 0 then 0 else 1
theorem oI_le {x : Int32} : oneI x ≤ 1 := by
  unfold oneI
  split <;> omega
theorem oI_a {x y : Int32} {s : RS} (h : y = 0 ∨ y = x) : adN x (oneI y) s = adz y s := by
  unfold oneI adz
  by_cases c : y = 0
  · rw [if_pos c, if_pos c]; rfl
  · rw [if_neg c, if_neg c, h.resolve_left c]; rfl
theorem lp_x {d bc bs : Nat} {h : jx_H} {Q : Option Value → jx_H → Prop} {f v : Int32} (H : jx_St h) (e : h.2.1 253 29 = f) (hf : ¬ f = 0) (q : Q none h) : LPt d bc bs v h Q := by
  unfold LPt
  refine je_iload2 (pc := 9) d12034_9 rfl ?_
  refine jn_ifeq (pc := 10) (a := 1) 202 d12034_10 (by decide) (by omega) (fun c10 => by exfalso; omega) (fun c10 => ?_)
  refine je_aload0 (pc := 13) d12034_13 rfl ?_
  refine ju_geti (pc := 14) d12034_14 jF_12_214 rfl (sK253 H) ?_
  refine ju_eqi (v := f) e ?_
  refine je_ifne (pc := 17) 202 d12034_17 (by decide) (fun c17 => ?_) (fun c17 => absurd c17 hf)
  refine je_ret (pc := 202) d12034_202 rfl ?_
  exact q
theorem lp_0 {d bc bs : Nat} {h : jx_H} {Q : Option Value → jx_H → Prop} {N sl p dp m : Nat} {U : Nat → Int32} {s : RS} {τ : List Int32} (B : mtP h N sl U p s (List.replicate m 9 ++ τ) dp) (f : s.1 = 0) (hsl : sl < 6) (L : m + τ.length ≤ 400) (LE : s.2.2.2.length + m < 300) (ht : ¬ τ.headD (-1) = 9) (hm : m ≤ dp) (hd : dp ≤ 10) (k : ∀ h', moT sl h h' → mtP h' N sl U p (adN (-13) m s) τ (dp - m) → A46 d bc bs h' Q) : LPt d bc bs 0 h Q := by
  unfold LPt
  refine je_iload2 (pc := 9) d12034_9 rfl ?_
  refine jn_ifeq (pc := 10) (a := 1) 202 d12034_10 (by decide) (by omega) (fun c10 => by exfalso; omega) (fun c10 => ?_)
  refine je_aload0 (pc := 13) d12034_13 rfl ?_
  refine ju_geti (pc := 14) d12034_14 jF_12_214 rfl (sK253 B.1.1.1) ?_
  refine ju_eqi (v := s.1) B.1.2.1 ?_
  refine je_ifne (pc := 17) 202 d12034_17 (by decide) (fun c17 => absurd c17 (fun z => z f)) (fun c17 => ?_)
  refine je_iload1 (pc := 20) d12034_20 rfl ?_
  refine jn_ifeq (pc := 21) (a := 0) 40 d12034_21 (by decide) (by omega) (fun c21 => ?_) (fun c21 => by exfalso; omega)
  refine je_aload0 (pc := 40) d12034_40 rfl ?_
  refine je_bipush (pc := 41) (v := 9) d12034_41 rfl ?_
  refine ju_callv (pc := 43) (as := [_]) d12034_43 jL_12_305 jM_Mo_answers rfl (by decide) (sK253 B.1.1.1) rfl (by exact Nat.le_of_ble_eq_true rfl) (t_Mo_answers_9 (d + 8) B f hsl L LE ht hm hd) (fun r43 h43 q43 => ?_)
  obtain ⟨rfl, F1, B1⟩ := q43
  exact k _ F1 B1
theorem lp_1a {d bc bs : Nat} {h : jx_H} {Q : Option Value → jx_H → Prop} {f : Int32} {P : jx_H → Prop} (H : jx_St h) (e : h.2.1 253 29 = f) (hf : f = 0) (t : jx_Tr (d + 10) 0 0 12035 [.ref 253] h (fun r h' => r = some (.int 0) ∧ P h')) (k : ∀ h', P h' → LPt d bc bs 1 h' Q) : LPt d bc bs 1 h Q := by
  unfold LPt
  refine je_iload2 (pc := 9) d12034_9 rfl ?_
  refine jn_ifeq (pc := 10) (a := 1) 202 d12034_10 (by decide) (by omega) (fun c10 => by exfalso; omega) (fun c10 => ?_)
  refine je_aload0 (pc := 13) d12034_13 rfl ?_
  refine ju_geti (pc := 14) d12034_14 jF_12_214 rfl (sK253 H) ?_
  refine ju_eqi (v := f) e ?_
  refine je_ifne (pc := 17) 202 d12034_17 (by decide) (fun c17 => absurd c17 (fun z => z hf)) (fun c17 => ?_)
  refine je_iload1 (pc := 20) d12034_20 rfl ?_
  refine jn_ifeq (pc := 21) (a := 1) 40 d12034_21 (by decide) (by omega) (fun c21 => by exfalso; omega) (fun c21 => ?_)
  refine je_aload0 (pc := 24) d12034_24 rfl ?_
  refine ju_callv (pc := 25) (as := []) d12034_25 jL_12_302 jM_Mo_fact rfl (by decide) (sK253 H) rfl (by exact Nat.le_of_ble_eq_true rfl) t (fun r25 h25 q25 => ?_)
  obtain ⟨rfl, p25⟩ := q25
  refine jn_ifne (pc := 28) (a := 0) 35 d12034_28 (by decide) (by omega) (fun c28 => by exfalso; omega) (fun c28 => ?_)
  refine je_iconst (pc := 31) (v := 1) d12034_31 rfl ?_
  refine je_goto (pc := 32) 36 d12034_32 (by decide) ?_
  refine ju_istore1 (pc := 36) (lv' := [some _, some _, some _, none, none]) d12034_36 rfl rfl ?_
  refine je_goto (pc := 37) 9 d12034_37 (by decide) ?_
  exact k _ p25
theorem lp_1b {d bc bs : Nat} {h : jx_H} {Q : Option Value → jx_H → Prop} {f : Int32} {P : jx_H → Prop} (H : jx_St h) (e : h.2.1 253 29 = f) (hf : f = 0) (t : jx_Tr (d + 10) 0 0 12035 [.ref 253] h (fun r h' => r = some (.int 1) ∧ P h')) (k : ∀ h', P h' → LPt d bc bs 0 h' Q) : LPt d bc bs 1 h Q := by
  unfold LPt
  refine je_iload2 (pc := 9) d12034_9 rfl ?_
  refine jn_ifeq (pc := 10) (a := 1) 202 d12034_10 (by decide) (by omega) (fun c10 => by exfalso; omega) (fun c10 => ?_)
  refine je_aload0 (pc := 13) d12034_13 rfl ?_
  refine ju_geti (pc := 14) d12034_14 jF_12_214 rfl (sK253 H) ?_
  refine ju_eqi (v := f) e ?_
  refine je_ifne (pc := 17) 202 d12034_17 (by decide) (fun c17 => absurd c17 (fun z => z hf)) (fun c17 => ?_)
  refine je_iload1 (pc := 20) d12034_20 rfl ?_
  refine jn_ifeq (pc := 21) (a := 1) 40 d12034_21 (by decide) (by omega) (fun c21 => by exfalso; omega) (fun c21 => ?_)
  refine je_aload0 (pc := 24) d12034_24 rfl ?_
  refine ju_callv (pc := 25) (as := []) d12034_25 jL_12_302 jM_Mo_fact rfl (by decide) (sK253 H) rfl (by exact Nat.le_of_ble_eq_true rfl) t (fun r25 h25 q25 => ?_)
  obtain ⟨rfl, p25⟩ := q25
  refine jn_ifne (pc := 28) (a := 1) 35 d12034_28 (by decide) (by omega) (fun c28 => ?_) (fun c28 => by exfalso; omega)
  refine je_iconst (pc := 35) (v := 0) d12034_35 rfl ?_
  refine ju_istore1 (pc := 36) (lv' := [some _, some _, some _, none, none]) d12034_36 rfl rfl ?_
  refine je_goto (pc := 37) 9 d12034_37 (by decide) ?_
  exact k _ p25
theorem a46_A {d bc bs : Nat} {h : jx_H} {Q : Option Value → jx_H → Prop} {N sl p dp : Nat} {U : Nat → Int32} {s : RS} {ρ : List Int32} {pr su : Int32} (B : mtP h N sl U p s (List.replicate (oneI pr) 10 ++ (List.replicate (oneI su) 11 ++ ρ)) dp) (hp : p ≤ N) (eB : skB U N p = s.2.1) (f : s.1 = 0) (hN : N ≤ 400) (hsl : sl < 6) (I : iR U N s) (hpr : pr = 0 ∨ pr = -11) (hsu : su = 0 ∨ su = -12) (hρ : ρ.headD (-1) = 12 ∨ ρ.headD (-1) = -1) (L : ρ.length ≤ 300) (a : stW U N s.2.1 (wdO 8)) (no : ¬ stW U N s.2.1 (wdO 9)) (k : ∀ h', moT sl h h' → mts h' N sl U (avR U N (adz pr s)) (10 :: (List.replicate (oneI su) 11 ++ ρ)) dp → LPt d bc bs 1 h' Q) : A46 d bc bs h Q := by
  have hb : s.2.1 ≤ N := by rw [← eB]; exact sk_N hp
  have op := oI_le (x := pr)
  have os := oI_le (x := su)
  have l253 := i_len I hN f
  have ht : ¬ (List.replicate (oneI su) 11 ++ ρ).headD (-1) = 10 := by
    unfold oneI
    split
    · show ¬ ρ.headD (-1) = 10
      rcases hρ with z | z <;> (rw [z]; decide)
    · exact (by decide : ¬ (11 : Int32) = 10)
  have ht2 : ¬ ρ.headD (-1) = 11 := by rcases hρ with z | z <;> (rw [z]; decide)
  have lr : (List.replicate (oneI su) (11 : Int32) ++ ρ).length = oneI su + ρ.length := by rw [List.length_append, List.length_replicate]
  have f2 : (adz pr s).1 = 0 := az_1.trans f
  have b2' : (adz pr s).2.1 = s.2.1 := az_b.1
  have l2 : (adz pr s).2.2.2.length ≤ 254 := by have := (az_b (x := pr) (s := s)).2.2 f; have := pd_le (x := pr); omega
  have f3 : (adz su (adz pr s)).1 = 0 := az_1.trans f2
  have b3' : (adz su (adz pr s)).2.1 = s.2.1 := az_b.1.trans b2'
  unfold A46
  refine je_aload0 (pc := 46) d12034_46 rfl ?_
  refine ju_callv (pc := 47) (as := []) d12034_47 jL_12_237 jM_Mo_blanks rfl (by decide) (sK253 B.1.1.1) rfl (by exact Nat.le_of_ble_eq_true rfl) (t_Mo_blanks_R (d + 8) B.1 hN (by omega)) (fun r47 h47 q47 => ?_)
  obtain ⟨rfl, F1, C1⟩ := q47
  rw [eB] at C1
  have B1 := B.F F1 C1
  refine je_aload0 (pc := 50) d12034_50 rfl ?_
  refine je_ldwS (pc := 51) (e := 36) d12034_51 rfl ?_
  refine ju_callv (pc := 54) (as := [_]) d12034_54 jL_12_240 jM_Mo_stood rfl (by decide) (sK253 B1.1.1.1) rfl (by exact Nat.le_of_ble_eq_true rfl) (t_Mo_stood_R (d + 5) (e := 36) (by decide) B1.1 hN hb) (fun r54 h54 q54 => ?_)
  obtain ⟨rfl, e54⟩ := q54
  obtain rfl := e54.symm
  rw [wd_35.2.1]
  refine ju_istore3 (pc := 57) (lv' := [some _, some _, some _, some _, none]) d12034_57 rfl rfl ?_
  refine je_aload0 (pc := 58) d12034_58 rfl ?_
  refine je_ldwS (pc := 59) (e := 37) d12034_59 rfl ?_
  refine ju_callv (pc := 62) (as := [_]) d12034_62 jL_12_240 jM_Mo_stood rfl (by decide) (sK253 B1.1.1.1) rfl (by exact Nat.le_of_ble_eq_true rfl) (t_Mo_stood_R (d + 5) (e := 37) (by decide) B1.1 hN hb) (fun r62 h62 q62 => ?_)
  obtain ⟨rfl, e62⟩ := q62
  obtain rfl := e62.symm
  rw [wd_35.2.2.1]
  refine ju_istore (pc := 65) (lv' := [some _, some _, some _, some _, some _]) d12034_65 rfl rfl ?_
  refine je_aload0 (pc := 67) d12034_67 rfl ?_
  refine je_bipush (pc := 68) (v := 10) d12034_68 rfl ?_
  refine ju_callv (pc := 70) (as := [_]) d12034_70 jL_12_305 jM_Mo_answers rfl (by decide) (sK253 B1.1.1.1) rfl (by exact Nat.le_of_ble_eq_true rfl) (t_Mo_answers_10 (d + 8) B1 f hsl (by omega) (by omega) ht) (fun r70 h70 q70 => ?_)
  obtain ⟨rfl, F2, B2⟩ := q70
  rw [oI_a hpr] at B2
  refine je_iload3 (pc := 73) d12034_73 rfl ?_
  refine jb_ifne (pc := 74) 82 d12034_74 (by decide) (fun c74 => ?_) (fun c74 => absurd c74 (fun z => z a))
  refine je_iload (pc := 82) d12034_82 rfl ?_
  refine jb_ifeq (pc := 84) 93 d12034_84 (by decide) (fun c84 => ?_) (fun c84 => absurd c84 no)
  refine je_aload0 (pc := 93) d12034_93 rfl ?_
  refine je_iload3 (pc := 94) d12034_94 rfl ?_
  refine jb_ifeq (pc := 95) 103 d12034_95 (by decide) (fun c95 => absurd c95 (fun z => z a)) (fun c95 => ?_)
  refine je_bipush (pc := 98) (v := 10) d12034_98 rfl ?_
  refine je_goto (pc := 100) 105 d12034_100 (by decide) ?_
  refine ju_callv (pc := 105) (as := [_]) d12034_105 jL_12_296 jM_Mo_opens rfl (by decide) (sK253 B2.1.1.1) rfl (by exact Nat.le_of_ble_eq_true rfl) (t_Mo_opens_10 (d + 8) B2 (by omega)) (fun r105 h105 q105 => ?_)
  obtain ⟨rfl, F4, B4⟩ := q105
  refine je_aload0 (pc := 108) d12034_108 rfl ?_
  refine je_dup (pc := 109) d12034_109 rfl ?_
  refine ju_geti (pc := 110) d12034_110 jF_12_217 rfl (sK253 B4.1.1.1) ?_
  refine ju_eqi (v := nI s.2.1) B4.1.2.2.1 ?_
  refine je_iload3 (pc := 113) d12034_113 rfl ?_
  refine jb_ifeq (pc := 114) 121 d12034_114 (by decide) (fun c114 => absurd c114 (fun z => z a)) (fun c114 => ?_)
  refine je_iconst (pc := 117) (v := 3) d12034_117 rfl ?_
  refine je_goto (pc := 118) 122 d12034_118 (by decide) ?_
  refine je_iadd (pc := 122) d12034_122 ?_
  refine ju_eqi (v := nI ((s.2.1) + 3)) (nI_add (s.2.1) 3) ?_
  refine ju_puti (pc := 123) d12034_123 jF_12_217 rfl (sK253 B4.1.1.1) ?_
  refine je_iconst (pc := 126) (v := 1) d12034_126 rfl ?_
  refine ju_istore1 (pc := 127) (lv' := [some _, some _, some _, some _, some _]) d12034_127 rfl rfl ?_
  refine je_goto (pc := 128) 199 d12034_128 (by decide) ?_
  refine je_goto (pc := 199) 9 d12034_199 (by decide) ?_
  have wl := wd_tk a
  rw [wd_35.2.2.2.2.1] at wl
  have tn := (tk_N (T := U) hb).2
  refine fg_5 (k _ (((F1.T.tr F2).tr F4).tr (moT.w (Or.inl rfl))) ⟨s.2.1 + 3, by omega, (B4.p (s.2.1 + 3)).av f2, ?_⟩)
  rw [av_o f2, b2', wl]
theorem a46_B {d bc bs : Nat} {h : jx_H} {Q : Option Value → jx_H → Prop} {N sl p dp : Nat} {U : Nat → Int32} {s : RS} {ρ : List Int32} {pr su : Int32} (B : mtP h N sl U p s (List.replicate (oneI pr) 10 ++ (List.replicate (oneI su) 11 ++ ρ)) dp) (hp : p ≤ N) (eB : skB U N p = s.2.1) (f : s.1 = 0) (hN : N ≤ 400) (hsl : sl < 6) (I : iR U N s) (hpr : pr = 0 ∨ pr = -11) (hsu : su = 0 ∨ su = -12) (hρ : ρ.headD (-1) = 12 ∨ ρ.headD (-1) = -1) (L : ρ.length ≤ 300) (na : ¬ stW U N s.2.1 (wdO 8)) (o : stW U N s.2.1 (wdO 9)) (k : ∀ h', moT sl h h' → mts h' N sl U (avR U N (adz su (adz pr s))) (11 :: ρ) dp → LPt d bc bs 1 h' Q) : A46 d bc bs h Q := by
  have hb : s.2.1 ≤ N := by rw [← eB]; exact sk_N hp
  have op := oI_le (x := pr)
  have os := oI_le (x := su)
  have l253 := i_len I hN f
  have ht : ¬ (List.replicate (oneI su) 11 ++ ρ).headD (-1) = 10 := by
    unfold oneI
    split
    · show ¬ ρ.headD (-1) = 10
      rcases hρ with z | z <;> (rw [z]; decide)
    · exact (by decide : ¬ (11 : Int32) = 10)
  have ht2 : ¬ ρ.headD (-1) = 11 := by rcases hρ with z | z <;> (rw [z]; decide)
  have lr : (List.replicate (oneI su) (11 : Int32) ++ ρ).length = oneI su + ρ.length := by rw [List.length_append, List.length_replicate]
  have f2 : (adz pr s).1 = 0 := az_1.trans f
  have b2' : (adz pr s).2.1 = s.2.1 := az_b.1
  have l2 : (adz pr s).2.2.2.length ≤ 254 := by have := (az_b (x := pr) (s := s)).2.2 f; have := pd_le (x := pr); omega
  have f3 : (adz su (adz pr s)).1 = 0 := az_1.trans f2
  have b3' : (adz su (adz pr s)).2.1 = s.2.1 := az_b.1.trans b2'
  unfold A46
  refine je_aload0 (pc := 46) d12034_46 rfl ?_
  refine ju_callv (pc := 47) (as := []) d12034_47 jL_12_237 jM_Mo_blanks rfl (by decide) (sK253 B.1.1.1) rfl (by exact Nat.le_of_ble_eq_true rfl) (t_Mo_blanks_R (d + 8) B.1 hN (by omega)) (fun r47 h47 q47 => ?_)
  obtain ⟨rfl, F1, C1⟩ := q47
  rw [eB] at C1
  have B1 := B.F F1 C1
  refine je_aload0 (pc := 50) d12034_50 rfl ?_
  refine je_ldwS (pc := 51) (e := 36) d12034_51 rfl ?_
  refine ju_callv (pc := 54) (as := [_]) d12034_54 jL_12_240 jM_Mo_stood rfl (by decide) (sK253 B1.1.1.1) rfl (by exact Nat.le_of_ble_eq_true rfl) (t_Mo_stood_R (d + 5) (e := 36) (by decide) B1.1 hN hb) (fun r54 h54 q54 => ?_)
  obtain ⟨rfl, e54⟩ := q54
  obtain rfl := e54.symm
  rw [wd_35.2.1]
  refine ju_istore3 (pc := 57) (lv' := [some _, some _, some _, some _, none]) d12034_57 rfl rfl ?_
  refine je_aload0 (pc := 58) d12034_58 rfl ?_
  refine je_ldwS (pc := 59) (e := 37) d12034_59 rfl ?_
  refine ju_callv (pc := 62) (as := [_]) d12034_62 jL_12_240 jM_Mo_stood rfl (by decide) (sK253 B1.1.1.1) rfl (by exact Nat.le_of_ble_eq_true rfl) (t_Mo_stood_R (d + 5) (e := 37) (by decide) B1.1 hN hb) (fun r62 h62 q62 => ?_)
  obtain ⟨rfl, e62⟩ := q62
  obtain rfl := e62.symm
  rw [wd_35.2.2.1]
  refine ju_istore (pc := 65) (lv' := [some _, some _, some _, some _, some _]) d12034_65 rfl rfl ?_
  refine je_aload0 (pc := 67) d12034_67 rfl ?_
  refine je_bipush (pc := 68) (v := 10) d12034_68 rfl ?_
  refine ju_callv (pc := 70) (as := [_]) d12034_70 jL_12_305 jM_Mo_answers rfl (by decide) (sK253 B1.1.1.1) rfl (by exact Nat.le_of_ble_eq_true rfl) (t_Mo_answers_10 (d + 8) B1 f hsl (by omega) (by omega) ht) (fun r70 h70 q70 => ?_)
  obtain ⟨rfl, F2, B2⟩ := q70
  rw [oI_a hpr] at B2
  refine je_iload3 (pc := 73) d12034_73 rfl ?_
  refine jb_ifne (pc := 74) 82 d12034_74 (by decide) (fun c74 => absurd c74 na) (fun c74 => ?_)
  refine je_iload (pc := 77) d12034_77 rfl ?_
  refine jb_ifeq (pc := 79) 131 d12034_79 (by decide) (fun c79 => absurd c79 (fun z => z o)) (fun c79 => ?_)
  refine je_iload (pc := 82) d12034_82 rfl ?_
  refine jb_ifeq (pc := 84) 93 d12034_84 (by decide) (fun c84 => absurd c84 (fun z => z o)) (fun c84 => ?_)
  refine je_aload0 (pc := 87) d12034_87 rfl ?_
  refine je_bipush (pc := 88) (v := 11) d12034_88 rfl ?_
  refine ju_callv (pc := 90) (as := [_]) d12034_90 jL_12_305 jM_Mo_answers rfl (by decide) (sK253 B2.1.1.1) rfl (by exact Nat.le_of_ble_eq_true rfl) (t_Mo_answers_11 (d + 8) B2 f2 hsl (by omega) (by omega) ht2) (fun r90 h90 q90 => ?_)
  obtain ⟨rfl, F3, B3⟩ := q90
  rw [oI_a hsu] at B3
  refine je_aload0 (pc := 93) d12034_93 rfl ?_
  refine je_iload3 (pc := 94) d12034_94 rfl ?_
  refine jb_ifeq (pc := 95) 103 d12034_95 (by decide) (fun c95 => ?_) (fun c95 => absurd c95 na)
  refine je_bipush (pc := 103) (v := 11) d12034_103 rfl ?_
  refine ju_callv (pc := 105) (as := [_]) d12034_105 jL_12_296 jM_Mo_opens rfl (by decide) (sK253 B3.1.1.1) rfl (by exact Nat.le_of_ble_eq_true rfl) (t_Mo_opens_11 (d + 8) B3 (by omega)) (fun r105 h105 q105 => ?_)
  obtain ⟨rfl, F4, B4⟩ := q105
  refine je_aload0 (pc := 108) d12034_108 rfl ?_
  refine je_dup (pc := 109) d12034_109 rfl ?_
  refine ju_geti (pc := 110) d12034_110 jF_12_217 rfl (sK253 B4.1.1.1) ?_
  refine ju_eqi (v := nI s.2.1) B4.1.2.2.1 ?_
  refine je_iload3 (pc := 113) d12034_113 rfl ?_
  refine jb_ifeq (pc := 114) 121 d12034_114 (by decide) (fun c114 => ?_) (fun c114 => absurd c114 na)
  refine je_iconst (pc := 121) (v := 2) d12034_121 rfl ?_
  refine je_iadd (pc := 122) d12034_122 ?_
  refine ju_eqi (v := nI ((s.2.1) + 2)) (nI_add (s.2.1) 2) ?_
  refine ju_puti (pc := 123) d12034_123 jF_12_217 rfl (sK253 B4.1.1.1) ?_
  refine je_iconst (pc := 126) (v := 1) d12034_126 rfl ?_
  refine ju_istore1 (pc := 127) (lv' := [some _, some _, some _, some _, some _]) d12034_127 rfl rfl ?_
  refine je_goto (pc := 128) 199 d12034_128 (by decide) ?_
  refine je_goto (pc := 199) 9 d12034_199 (by decide) ?_
  have wl := wd_tk o
  rw [wd_35.2.2.2.2.2] at wl
  have tn := (tk_N (T := U) hb).2
  refine fg_5 (k _ ((((F1.T.tr F2).tr F3).tr F4).tr (moT.w (Or.inl rfl))) ⟨s.2.1 + 2, by omega, (B4.p (s.2.1 + 2)).av f3, ?_⟩)
  rw [av_o f3, b3', wl]
theorem a46_C {d bc bs : Nat} {h : jx_H} {Q : Option Value → jx_H → Prop} {N sl p dp : Nat} {U : Nat → Int32} {s : RS} {ρ : List Int32} {pr su : Int32} (B : mtP h N sl U p s (List.replicate (oneI pr) 10 ++ (List.replicate (oneI su) 11 ++ ρ)) dp) (hp : p ≤ N) (eB : skB U N p = s.2.1) (f : s.1 = 0) (hN : N ≤ 400) (hsl : sl < 6) (I : iR U N s) (hpr : pr = 0 ∨ pr = -11) (hsu : su = 0 ∨ su = -12) (hρ : ρ.headD (-1) = 12 ∨ ρ.headD (-1) = -1) (L : ρ.length ≤ 300) (na : ¬ stW U N s.2.1 (wdO 8)) (no : ¬ stW U N s.2.1 (wdO 9)) (k : ∀ h', moT sl h h' → mtP h' N sl U s.2.1 (adz su (adz pr s)) ρ dp → A137 d bc bs h' Q) : A46 d bc bs h Q := by
  have hb : s.2.1 ≤ N := by rw [← eB]; exact sk_N hp
  have op := oI_le (x := pr)
  have os := oI_le (x := su)
  have l253 := i_len I hN f
  have ht : ¬ (List.replicate (oneI su) 11 ++ ρ).headD (-1) = 10 := by
    unfold oneI
    split
    · show ¬ ρ.headD (-1) = 10
      rcases hρ with z | z <;> (rw [z]; decide)
    · exact (by decide : ¬ (11 : Int32) = 10)
  have ht2 : ¬ ρ.headD (-1) = 11 := by rcases hρ with z | z <;> (rw [z]; decide)
  have lr : (List.replicate (oneI su) (11 : Int32) ++ ρ).length = oneI su + ρ.length := by rw [List.length_append, List.length_replicate]
  have f2 : (adz pr s).1 = 0 := az_1.trans f
  have b2' : (adz pr s).2.1 = s.2.1 := az_b.1
  have l2 : (adz pr s).2.2.2.length ≤ 254 := by have := (az_b (x := pr) (s := s)).2.2 f; have := pd_le (x := pr); omega
  have f3 : (adz su (adz pr s)).1 = 0 := az_1.trans f2
  have b3' : (adz su (adz pr s)).2.1 = s.2.1 := az_b.1.trans b2'
  unfold A46
  refine je_aload0 (pc := 46) d12034_46 rfl ?_
  refine ju_callv (pc := 47) (as := []) d12034_47 jL_12_237 jM_Mo_blanks rfl (by decide) (sK253 B.1.1.1) rfl (by exact Nat.le_of_ble_eq_true rfl) (t_Mo_blanks_R (d + 8) B.1 hN (by omega)) (fun r47 h47 q47 => ?_)
  obtain ⟨rfl, F1, C1⟩ := q47
  rw [eB] at C1
  have B1 := B.F F1 C1
  refine je_aload0 (pc := 50) d12034_50 rfl ?_
  refine je_ldwS (pc := 51) (e := 36) d12034_51 rfl ?_
  refine ju_callv (pc := 54) (as := [_]) d12034_54 jL_12_240 jM_Mo_stood rfl (by decide) (sK253 B1.1.1.1) rfl (by exact Nat.le_of_ble_eq_true rfl) (t_Mo_stood_R (d + 5) (e := 36) (by decide) B1.1 hN hb) (fun r54 h54 q54 => ?_)
  obtain ⟨rfl, e54⟩ := q54
  obtain rfl := e54.symm
  rw [wd_35.2.1]
  refine ju_istore3 (pc := 57) (lv' := [some _, some _, some _, some _, none]) d12034_57 rfl rfl ?_
  refine je_aload0 (pc := 58) d12034_58 rfl ?_
  refine je_ldwS (pc := 59) (e := 37) d12034_59 rfl ?_
  refine ju_callv (pc := 62) (as := [_]) d12034_62 jL_12_240 jM_Mo_stood rfl (by decide) (sK253 B1.1.1.1) rfl (by exact Nat.le_of_ble_eq_true rfl) (t_Mo_stood_R (d + 5) (e := 37) (by decide) B1.1 hN hb) (fun r62 h62 q62 => ?_)
  obtain ⟨rfl, e62⟩ := q62
  obtain rfl := e62.symm
  rw [wd_35.2.2.1]
  refine ju_istore (pc := 65) (lv' := [some _, some _, some _, some _, some _]) d12034_65 rfl rfl ?_
  refine je_aload0 (pc := 67) d12034_67 rfl ?_
  refine je_bipush (pc := 68) (v := 10) d12034_68 rfl ?_
  refine ju_callv (pc := 70) (as := [_]) d12034_70 jL_12_305 jM_Mo_answers rfl (by decide) (sK253 B1.1.1.1) rfl (by exact Nat.le_of_ble_eq_true rfl) (t_Mo_answers_10 (d + 8) B1 f hsl (by omega) (by omega) ht) (fun r70 h70 q70 => ?_)
  obtain ⟨rfl, F2, B2⟩ := q70
  rw [oI_a hpr] at B2
  refine je_iload3 (pc := 73) d12034_73 rfl ?_
  refine jb_ifne (pc := 74) 82 d12034_74 (by decide) (fun c74 => absurd c74 na) (fun c74 => ?_)
  refine je_iload (pc := 77) d12034_77 rfl ?_
  refine jb_ifeq (pc := 79) 131 d12034_79 (by decide) (fun c79 => ?_) (fun c79 => absurd c79 no)
  refine je_aload0 (pc := 131) d12034_131 rfl ?_
  refine je_bipush (pc := 132) (v := 11) d12034_132 rfl ?_
  refine ju_callv (pc := 134) (as := [_]) d12034_134 jL_12_305 jM_Mo_answers rfl (by decide) (sK253 B2.1.1.1) rfl (by exact Nat.le_of_ble_eq_true rfl) (t_Mo_answers_11 (d + 8) B2 f2 hsl (by omega) (by omega) ht2) (fun r134 h134 q134 => ?_)
  obtain ⟨rfl, F3, B3⟩ := q134
  rw [oI_a hsu] at B3
  refine fg_5 (k _ ((F1.T.tr F2).tr F3) B3)
theorem a137_o {d bc bs : Nat} {h : jx_H} {Q : Option Value → jx_H → Prop} {N sl p dp : Nat} {U : Nat → Int32} {s : RS} {ρ : List Int32} (B : mtP h N sl U p s (12 :: ρ) (dp + 1)) (hp : p ≤ N) (f : s.1 = 0) (hN : N ≤ 400) (L : ρ.length ≤ 300) (hd : dp ≤ 10) (c : (if p < N then U p else -1) = 93) (k : ∀ h', moT sl h h' → mtP h' N sl U (p + 1) s ρ dp → p + 1 ≤ N → LPt d bc bs 0 h' Q) : A137 d bc bs h Q := by
  obtain ⟨x1, x2⟩ := sgn_lt c (by decide)
  unfold A137
  refine je_aload0 (pc := 137) d12034_137 rfl ?_
  refine ju_callv (pc := 138) (as := []) d12034_138 jL_12_291 jM_Mo_top rfl (by decide) (sK253 B.1.1.1) rfl (by exact Nat.le_of_ble_eq_true rfl) (t_Mo_top (d + 9) B (by rw [List.length_cons]; omega)) (fun r138 h138 q138 => ?_)
  obtain ⟨rfl, e138⟩ := q138
  obtain rfl := e138.symm
  refine je_bipush (pc := 141) (v := 12) d12034_141 rfl ?_
  refine jn_icne (pc := 143) (a := 12) (b := 12) 197 d12034_143 (by decide) (by omega) (by omega) (fun c143 => by exfalso; omega) (fun c143 => ?_)
  refine je_aload0 (pc := 146) d12034_146 rfl ?_
  refine ju_callv (pc := 147) (as := []) d12034_147 jL_12_220 jM_Mo_sign rfl (by decide) (sK253 B.1.1.1) rfl (by exact Nat.le_of_ble_eq_true rfl) (t_Mo_sign_R (d + 9) B.1 hN (by omega)) (fun r147 h147 q147 => ?_)
  obtain ⟨rfl, e147⟩ := q147
  obtain rfl := e147.symm
  refine je_bipush (pc := 150) (v := 93) d12034_150 rfl ?_
  refine je_iceq (pc := 152) 164 d12034_152 (by decide) (fun c152 => ?_) (fun c152 => absurd c152 (fun z => z c))
  refine je_aload0 (pc := 164) d12034_164 rfl ?_
  refine je_dup (pc := 165) d12034_165 rfl ?_
  refine ju_geti (pc := 166) d12034_166 jF_12_217 rfl (sK253 B.1.1.1) ?_
  refine ju_eqi (v := nI p) B.1.2.2.1 ?_
  refine je_iconst (pc := 169) (v := 1) d12034_169 rfl ?_
  refine je_iadd (pc := 170) d12034_170 ?_
  refine ju_eqi (v := nI ((p) + 1)) (nI_add (p) 1) ?_
  refine ju_puti (pc := 171) d12034_171 jF_12_217 rfl (sK253 B.1.1.1) ?_
  have B2 := B.p (p + 1)
  refine je_aload0 (pc := 174) d12034_174 rfl ?_
  refine je_dup (pc := 175) d12034_175 rfl ?_
  refine ju_geti (pc := 176) d12034_176 jF_12_285 rfl (sK253 B.1.1.1.wI) ?_
  refine ju_eqi (v := nI (ρ.length + 1)) B2.2.1 ?_
  refine je_iconst (pc := 179) (v := 1) d12034_179 rfl ?_
  refine je_isub (pc := 180) d12034_180 ?_
  refine ju_eqi (v := nI ((ρ.length + 1) - 1)) (pk_sub (a := (ρ.length + 1)) (b := 1) (by omega)) ?_
  refine ju_puti (pc := 181) d12034_181 jF_12_285 rfl (sK253 B.1.1.1.wI) ?_
  obtain ⟨B3, F3⟩ := mt_pp B2
  rw [Nat.add_sub_cancel]
  refine je_aload0 (pc := 184) d12034_184 rfl ?_
  refine je_dup (pc := 185) d12034_185 rfl ?_
  refine ju_geti (pc := 186) d12034_186 jF_12_288 rfl (sK253 B.1.1.1.wI.wI) ?_
  refine ju_eqi (v := nI (dp + 1)) B3.2.2.2 ?_
  refine je_iconst (pc := 189) (v := 1) d12034_189 rfl ?_
  refine je_isub (pc := 190) d12034_190 ?_
  refine ju_eqi (v := nI ((dp + 1) - 1)) (pk_sub (a := (dp + 1)) (b := 1) (by omega)) ?_
  refine ju_puti (pc := 191) d12034_191 jF_12_288 rfl (sK253 B.1.1.1.wI.wI) ?_
  refine je_goto (pc := 194) 199 d12034_194 (by decide) ?_
  refine je_goto (pc := 199) 9 d12034_199 (by decide) ?_
  obtain ⟨B4, F4⟩ := mt_dp (dp + 1 - 1) B3
  exact k _ (((moT.w (Or.inl rfl)).tr F3).tr F4) B4 (by omega)
theorem a137_x {d bc bs : Nat} {h : jx_H} {Q : Option Value → jx_H → Prop} {N sl p dp : Nat} {U : Nat → Int32} {s : RS} {ρ : List Int32} (B : mtP h N sl U p s (12 :: ρ) (dp + 1)) (hp : p ≤ N) (f : s.1 = 0) (hN : N ≤ 400) (L : ρ.length ≤ 300) (hd : dp ≤ 10) (c : ¬ (if p < N then U p else -1) = 93) (k : ∀ h', moT sl h h' → mrB h' N sl U (fltI p 0) → LPt d bc bs 0 h' Q) : A137 d bc bs h Q := by
  unfold A137
  refine je_aload0 (pc := 137) d12034_137 rfl ?_
  refine ju_callv (pc := 138) (as := []) d12034_138 jL_12_291 jM_Mo_top rfl (by decide) (sK253 B.1.1.1) rfl (by exact Nat.le_of_ble_eq_true rfl) (t_Mo_top (d + 9) B (by rw [List.length_cons]; omega)) (fun r138 h138 q138 => ?_)
  obtain ⟨rfl, e138⟩ := q138
  obtain rfl := e138.symm
  refine je_bipush (pc := 141) (v := 12) d12034_141 rfl ?_
  refine jn_icne (pc := 143) (a := 12) (b := 12) 197 d12034_143 (by decide) (by omega) (by omega) (fun c143 => by exfalso; omega) (fun c143 => ?_)
  refine je_aload0 (pc := 146) d12034_146 rfl ?_
  refine ju_callv (pc := 147) (as := []) d12034_147 jL_12_220 jM_Mo_sign rfl (by decide) (sK253 B.1.1.1) rfl (by exact Nat.le_of_ble_eq_true rfl) (t_Mo_sign_R (d + 9) B.1 hN (by omega)) (fun r147 h147 q147 => ?_)
  obtain ⟨rfl, e147⟩ := q147
  obtain rfl := e147.symm
  refine je_bipush (pc := 150) (v := 93) d12034_150 rfl ?_
  refine je_iceq (pc := 152) 164 d12034_152 (by decide) (fun c152 => absurd c152 c) (fun c152 => ?_)
  refine je_aload0 (pc := 155) d12034_155 rfl ?_
  refine je_iconst (pc := 156) (v := 0) d12034_156 rfl ?_
  refine je_aload0 (pc := 157) d12034_157 rfl ?_
  refine ju_geti (pc := 158) d12034_158 jF_12_217 rfl (sK253 B.1.1.1) ?_
  refine ju_eqi (v := nI p) B.1.2.2.1 ?_
  refine ju_callv (pc := 161) (as := [_, _]) d12034_161 jL_12_253 jM_Mo_fails rfl (by decide) (sK253 B.1.1.1) rfl (by exact Nat.le_of_ble_eq_true rfl) (t_Mo_fails_R (d + 9) (q := p) (c := 0) B.1 (by omega) (by decide)) (fun r161 h161 q161 => ?_)
  obtain ⟨rfl, F1, C1⟩ := q161
  have B1 := B.F F1 C1
  refine je_aload0 (pc := 164) d12034_164 rfl ?_
  refine je_dup (pc := 165) d12034_165 rfl ?_
  refine ju_geti (pc := 166) d12034_166 jF_12_217 rfl (sK253 B1.1.1.1) ?_
  refine ju_eqi (v := nI p) B1.1.2.2.1 ?_
  refine je_iconst (pc := 169) (v := 1) d12034_169 rfl ?_
  refine je_iadd (pc := 170) d12034_170 ?_
  refine ju_eqi (v := nI ((p) + 1)) (nI_add (p) 1) ?_
  refine ju_puti (pc := 171) d12034_171 jF_12_217 rfl (sK253 B1.1.1.1) ?_
  have B2 := B1.p (p + 1)
  refine je_aload0 (pc := 174) d12034_174 rfl ?_
  refine je_dup (pc := 175) d12034_175 rfl ?_
  refine ju_geti (pc := 176) d12034_176 jF_12_285 rfl (sK253 B1.1.1.1.wI) ?_
  refine ju_eqi (v := nI (ρ.length + 1)) B2.2.1 ?_
  refine je_iconst (pc := 179) (v := 1) d12034_179 rfl ?_
  refine je_isub (pc := 180) d12034_180 ?_
  refine ju_eqi (v := nI ((ρ.length + 1) - 1)) (pk_sub (a := (ρ.length + 1)) (b := 1) (by omega)) ?_
  refine ju_puti (pc := 181) d12034_181 jF_12_285 rfl (sK253 B1.1.1.1.wI) ?_
  obtain ⟨B3, F3⟩ := mt_pp B2
  rw [Nat.add_sub_cancel]
  refine je_aload0 (pc := 184) d12034_184 rfl ?_
  refine je_dup (pc := 185) d12034_185 rfl ?_
  refine ju_geti (pc := 186) d12034_186 jF_12_288 rfl (sK253 B1.1.1.1.wI.wI) ?_
  refine ju_eqi (v := nI (dp + 1)) B3.2.2.2 ?_
  refine je_iconst (pc := 189) (v := 1) d12034_189 rfl ?_
  refine je_isub (pc := 190) d12034_190 ?_
  refine ju_eqi (v := nI ((dp + 1) - 1)) (pk_sub (a := (dp + 1)) (b := 1) (by omega)) ?_
  refine ju_puti (pc := 191) d12034_191 jF_12_288 rfl (sK253 B1.1.1.1.wI.wI) ?_
  refine je_goto (pc := 194) 199 d12034_194 (by decide) ?_
  refine je_goto (pc := 199) 9 d12034_199 (by decide) ?_
  obtain ⟨B4, F4⟩ := mt_dp (dp + 1 - 1) B3
  have ef : (flP p 0 s).1 = fltI p 0 := congrArg Prod.fst (if_pos f : flP p 0 s = _)
  have q := B4.1.b (by omega)
  rw [ef] at q
  exact k _ (((F1.T.tr (moT.w (Or.inl rfl))).tr F3).tr F4) q
theorem a137_e {d bc bs : Nat} {h : jx_H} {Q : Option Value → jx_H → Prop} {N sl p dp : Nat} {U : Nat → Int32} {s : RS} (B : mtP h N sl U p s [] dp) (q : Q none h) : A137 d bc bs h Q := by
  unfold A137
  refine je_aload0 (pc := 137) d12034_137 rfl ?_
  refine ju_callv (pc := 138) (as := []) d12034_138 jL_12_291 jM_Mo_top rfl (by decide) (sK253 B.1.1.1) rfl (by exact Nat.le_of_ble_eq_true rfl) (t_Mo_top (d + 9) B (by decide)) (fun r138 h138 q138 => ?_)
  obtain ⟨rfl, e138⟩ := q138
  obtain rfl := e138.symm
  refine je_bipush (pc := 141) (v := 12) d12034_141 rfl ?_
  refine je_icne (pc := 143) 197 d12034_143 (by decide) (fun c143 => ?_) (fun c143 => absurd c143 (by decide))
  refine je_iconst (pc := 197) (v := 0) d12034_197 rfl ?_
  refine ju_istore2 (pc := 198) (lv' := [some _, some _, some _, none, none]) d12034_198 rfl rfl ?_
  refine je_goto (pc := 199) 9 d12034_199 (by decide) ?_
  refine je_iload2 (pc := 9) d12034_9 rfl ?_
  refine jn_ifeq (pc := 10) (a := 0) 202 d12034_10 (by decide) (by omega) (fun c10 => ?_) (fun c10 => by exfalso; omega)
  refine je_ret (pc := 202) d12034_202 rfl ?_
  exact q
