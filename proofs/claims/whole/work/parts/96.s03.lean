/-! a rule told: the model reads sums -/
theorem tk_x {T : Nat → Int32} {N b : Nat} {x : Int32} (h1 : ¬ isDg x = true) (h2 : ¬ isLt_ x = true) (h3 : ¬ (x = 60 ∨ x = 62)) (h4 : ¬ (-1 : Int32) = x ∧ ¬ (256 : Int32) = x ∧ ¬ (257 : Int32) = x ∧ ¬ (258 : Int32) = x ∧ ¬ (259 : Int32) = x) : tkS T N b = x ↔ (if b < N then T b else -1) = x := by
  by_cases hb : b < N
  · rw [if_pos hb]
    unfold tkS
    rw [if_neg (by omega)]
    constructor
    · intro h
      split at h
      · exact absurd h h4.2.1
      · split at h
        · exact absurd h h4.2.2.1
        · split at h
          · split at h
            · exact absurd h h4.2.2.2.1
            · exact absurd h h4.2.2.2.2
          · exact h
    · intro e
      rw [if_neg (by rw [e]; exact h1), if_neg (by rw [e]; exact h2), if_neg (fun z => by have := of_decide_eq_true z; rw [e] at this; exact h3 this.1)]
      exact e
  · rw [if_neg hb]
    unfold tkS
    rw [if_pos (by omega)]
theorem tkE_x {T : Nat → Int32} {N b : Nat} {x : Int32} (h1 : ¬ isDg x = true) (h2 : ¬ isLt_ x = true) (h3 : ¬ (x = 60 ∨ x = 62)) (hb : b < N) (e : T b = x) : tkE T N b = b + 1 := by
  unfold tkE
  rw [if_neg (by omega), if_neg (by rw [e]; exact h1), if_neg (by rw [e]; exact h2), if_neg (fun z => by have := of_decide_eq_true z; rw [e] at this; exact h3 this.1)]
theorem ifx {P Q : Prop} {_ : Decidable P} {_ : Decidable Q} {a b c : Int32} (h : P ↔ Q) (e : b = c) : (if P then a else b) = (if Q then a else c) := by
  rw [e]; exact iw_cg h a c
theorem pr_X {T : Nat → Int32} {N b : Nat} : prR T N b = prX (if b < N then T b else -1) := by
  unfold prR prX
  exact ifx (tk_x (by decide) (by decide) (by decide) (by decide)) (ifx (tk_x (by decide) (by decide) (by decide) (by decide)) (ifx (tk_x (by decide) (by decide) (by decide) (by decide)) rfl))
theorem su_X {T : Nat → Int32} {N b : Nat} : suR T N b = suX (if b < N then T b else -1) := by
  unfold suR suX
  exact ifx (tk_x (by decide) (by decide) (by decide) (by decide)) (ifx (tk_x (by decide) (by decide) (by decide) (by decide)) rfl)
theorem sgn_lt {T : Nat → Int32} {N b : Nat} {x : Int32} (h : (if b < N then T b else -1) = x) (hx : ¬ (-1 : Int32) = x) : b < N ∧ T b = x := by
  by_cases hb : b < N
  · rw [if_pos hb] at h; exact ⟨hb, h⟩
  · rw [if_neg hb] at h; exact absurd h hx
theorem one_E {T : Nat → Int32} {N b : Nat} {x : Int32} (h : (if b < N then T b else -1) = x) (hx : x = 42 ∨ x = 47 ∨ x = 37 ∨ x = 43 ∨ x = 45) : b < N ∧ tkE T N b = b + 1 := by
  have k : ¬ isDg x = true ∧ ¬ isLt_ x = true ∧ ¬ (x = 60 ∨ x = 62) ∧ ¬ (-1 : Int32) = x := by
    rcases hx with rfl | rfl | rfl | rfl | rfl <;> decide
  obtain ⟨h1, h2⟩ := sgn_lt h k.2.2.2
  exact ⟨h1, tkE_x k.1 k.2.1 k.2.2.1 h1 h2⟩
def kpX (x : Int32) : Int32 := if x = 42 then 13 else if x = 47 then 14 else 15
def ksX (x : Int32) : Int32 := if x = 43 then 2 else 3
theorem kp_e {x : Int32} (hx : x = 42 ∨ x = 47 ∨ x = 37) : okS (kpX x) 0 ∧ encR (kpX x) 0 = prX x ∧ ¬ prX x = 0 := by
  rcases hx with rfl | rfl | rfl <;> exact ⟨Or.inr (Or.inr (by decide)), by decide, by decide⟩
theorem ks_e {x : Int32} (hx : x = 43 ∨ x = 45) : okS (ksX x) 0 ∧ encR (ksX x) 0 = suX x ∧ ¬ suX x = 0 := by
  rcases hx with rfl | rfl <;> exact ⟨Or.inr (Or.inr (by decide)), by decide, by decide⟩
theorem st_i {T : Nat → Int32} {N : Nat} {y : Bool} {g : RS → RS} {x : Int32} {s : RS} (hg : gdR T N y g) (f : s.1 = 0) (i : iR T N s) : iR T N (adR x (g (avR T N s))) ∧ ((adR x (g (avR T N s))).1 = 0 → s.2.2.1 < (adR x (g (avR T N s))).2.2.1) := by
  obtain ⟨a1, a2, a3, a4, a5⟩ := av_ok f i.1
  have G := (hg (avR T N s)).2 a1 a2
  by_cases z : (g (avR T N s)).1 = 0
  · obtain ⟨g1, g2, ⟨g3, g4, g5, g6⟩, -⟩ := G.2 z
    have k := i.2 f
    rw [a5] at g2 g5
    rw [ad_o z]
    refine ⟨⟨fun _ => g1 z, fun _ => ?_⟩, fun _ => g2⟩
    dsimp only
    rw [List.length_append, List.length_singleton]
    omega
  · rw [ad_f z]
    exact ⟨⟨fun y => absurd y z, fun y => absurd y z⟩, fun y => absurd y z⟩
theorem mrJ.av {h : jx_H} {N sl : Nat} {U : Nat → Int32} {s : RS} {p q : Nat} (B : mrP h N sl U p s) (f : s.1 = 0) (hq : q ≤ N) (e : q = tkE U N s.2.1) : mrI (jx_wI h 253 28 (nI q)) N sl U (avR U N s) := by
  refine ⟨q, hq, (B.p q).e2 ?_ ?_, fun _ => ?_⟩
  · rw [av_o f]; exact f.symm
  · intro _; rw [av_o f]
  · rw [av_o f, e]
theorem mrI.bl {h : jx_H} {N sl p : Nat} {U : Nat → Int32} {s : RS} (B : mrP h N sl U (skB U N p) s) (hp : p ≤ N) (e : s.1 = 0 → skB U N p = s.2.1) : mrJ h N sl U s := ⟨skB U N p, sk_N hp, B, e⟩
theorem fg_2 {d bc bs i pc : Nat} {a x : Option Value} {st : List Value} {h : jx_H} {Q : Option Value → jx_H → Prop} (t : jx_Ev d bc bs i pc [a, none] st h Q) : jx_Ev d bc bs i pc [a, x] st h Q := jx_Ev.forget (lv' := [a, none]) rfl (fun k v hk => match k, hk with
  | 0, hk => hk
  | 1, hk => absurd hk (by simp)
  | k + 2, hk => absurd hk (by simp)) t
set_option maxHeartbeats 4000000 in
theorem t_Mo_term (d : Nat) {bc bs : Nat} {h : jx_H} {N sl : Nat} {U : Nat → Int32} {s : RS} (B0 : mrI h N sl U s) (hN : N ≤ 400) (hsl : sl < 6) (I : iR U N s) : jx_Tr (d + 7) bc bs 12028 [.ref 253] h (fun r h' => r = none ∧ moF sl h h' ∧ mrJ h' N sl U (trR (avR U N) (vaR U N) (prR U N) s)) := by
  refine jx_tr jM_Mo_term rfl rfl (lv := [some (.ref 253), none]) rfl ?_
  refine je_aload0 (pc := 0) d12028_0 rfl ?_
  refine ju_callv (pc := 1) (as := []) d12028_1 jL_12_276 jM_Mo_value rfl (by decide) (sK253 B0.choose_spec.2.1.1.1) rfl (by exact Nat.le_of_ble_eq_true rfl) (t_Mo_value d B0 hN hsl I) (fun r1 h1 q1 => ?_)
  obtain ⟨rfl, F1, p1, h1p, B1, e1⟩ := q1
  refine je_aload0 (pc := 4) d12028_4 rfl ?_
  refine ju_callv (pc := 5) (as := []) d12028_5 jL_12_237 jM_Mo_blanks rfl (by decide) (sK253 B1.1.1) rfl (by exact Nat.le_of_ble_eq_true rfl) (t_Mo_blanks_R (d + 4) B1 hN (by omega)) (fun r5 h5 q5 => ?_)
  obtain ⟨rfl, F2, B2⟩ := q5
  have q0 := F1.tr F2
  have q1 := mrI.bl B2 h1p e1
  have q2 := gd_i (va_gd (T := U) hN) I
  refine je_loop (σ := RS) (61) (fun k xx => [some (.ref 253), none]) (fun k xx h' => moF sl h h' ∧ mrJ h' N sl U xx ∧ iR U N xx ∧ (∃ n, 61 ≤ n + k ∧ trR (avR U N) (vaR U N) (prR U N) s = lpR (avR U N) (vaR U N) (prR U N) n xx) ∧ (xx.1 = 0 → k ≤ xx.2.2.1)) (fun k xx h' hk e kk => ?_) (fun xx h' e => ?_) (0) (vaR U N s) _ (by omega) ⟨q0, q1, q2, ⟨61, by decide, rfl⟩, fun _ => Nat.zero_le _⟩
  · obtain ⟨j1, ⟨p, hp, B, eB⟩, j3, ⟨n, hn, j4⟩, j5⟩ := e
    refine je_aload0 (pc := 8) d12028_8 rfl ?_
    refine ju_geti (pc := 9) d12028_9 jF_12_214 rfl (sK253 B.1.1) ?_
    refine ju_eqi (v := xx.1) B.2.1 ?_
    refine je_ifne (pc := 12) 100 d12028_12 (by decide) (fun c12 => ?_) (fun c12 => ?_)
    · refine je_ret (pc := 100) d12028_100 rfl ?_
      rw [j4, lp_f c12]
      exact ⟨rfl, j1, p, hp, B, eB⟩
    · have f := c12
      have eP : prX (if p < N then U p else -1) = prR U N xx.2.1 := by rw [pr_X, ← eB f]
      have K42 : (if p < N then U p else -1) = 42 ∨ (if p < N then U p else -1) = 47 ∨ (if p < N then U p else -1) = 37 → jx_Ev (d + 7) bc bs 12028 42 [some (.ref 253), none] [] h' (fun r h' => r = none ∧ moF sl h h' ∧ mrJ h' N sl U (trR (avR U N) (vaR U N) (prR U N) s)) := by
        intro xo
        have pN : p < N := (one_E (T := U) (N := N) (b := p) rfl (xo.elim Or.inl (fun z => Or.inr (z.elim Or.inl (fun y => Or.inr (Or.inl y)))))).1
        refine je_aload0 (pc := 42) d12028_42 rfl ?_
        refine ju_callv (pc := 43) (as := []) d12028_43 jL_12_220 jM_Mo_sign rfl (by decide) (sK253 B.1.1) rfl (by exact Nat.le_of_ble_eq_true rfl) (t_Mo_sign_R (d + 5) B hN (by omega)) (fun r43 h43 q43 => ?_)
        obtain ⟨rfl, e43⟩ := q43
        obtain rfl := e43.symm
        refine je_bipush (pc := 46) (v := 42) d12028_46 rfl ?_
        refine ju_tern2 (pc := 48) (V := (kpX (if p < N then U p else -1))) 72 ?_ (fun jn48 => ?_)
        · refine ju_istore1 (pc := 72) (lv' := [some _, some _]) d12028_72 rfl rfl ?_
          refine je_aload0 (pc := 73) d12028_73 rfl ?_
          refine je_dup (pc := 74) d12028_74 rfl ?_
          refine ju_geti (pc := 75) d12028_75 jF_12_217 rfl (sK253 B.1.1) ?_
          refine ju_eqi (v := nI p) B.2.2.1 ?_
          refine je_iconst (pc := 78) (v := 1) d12028_78 rfl ?_
          refine je_iadd (pc := 79) d12028_79 ?_
          refine ju_eqi (v := nI ((p) + 1)) (nI_add (p) 1) ?_
          refine ju_puti (pc := 80) d12028_80 jF_12_217 rfl (sK253 B.1.1) ?_
          have B2 := mrJ.av (q := p + 1) B f (by omega) (by rw [← eB f]; exact (one_E (T := U) (N := N) (b := p) rfl (xo.elim Or.inl (fun z => Or.inr (z.elim Or.inl (fun y => Or.inr (Or.inl y)))))).2.symm)
          refine je_aload0 (pc := 83) d12028_83 rfl ?_
          refine ju_callv (pc := 84) (as := []) d12028_84 jL_12_276 jM_Mo_value rfl (by decide) (sK253 B.1.1.wI) rfl (by exact Nat.le_of_ble_eq_true rfl) (t_Mo_value d B2 hN hsl (av_i j3)) (fun r84 h84 q84 => ?_)
          obtain ⟨rfl, F3, p3, h3, B3, e3⟩ := q84
          refine je_aload0 (pc := 87) d12028_87 rfl ?_
          refine je_iload1 (pc := 88) d12028_88 rfl ?_
          refine je_iconst (pc := 89) (v := 0) d12028_89 rfl ?_
          refine ju_callv (pc := 90) (as := [_, _]) d12028_90 jL_12_269 jM_Mo_entry rfl (by decide) (sK253 B3.1.1) rfl (by exact Nat.le_of_ble_eq_true rfl) (t_Mo_entry (d + 5) (so := kpX (if p < N then U p else -1)) (nu := 0) B3 hsl (fun g => by have := i_len (gd_i (va_gd hN) (av_i j3)) hN g; omega) (fun _ => (kp_e xo).1)) (fun r90 h90 q90 => ?_)
          obtain ⟨rfl, F4, B4⟩ := q90
          rw [(kp_e xo).2.1, eP] at B4
          refine je_aload0 (pc := 93) d12028_93 rfl ?_
          refine ju_callv (pc := 94) (as := []) d12028_94 jL_12_237 jM_Mo_blanks rfl (by decide) (sK253 B4.1.1) rfl (by exact Nat.le_of_ble_eq_true rfl) (t_Mo_blanks_R (d + 4) B4 hN (by omega)) (fun r94 h94 q94 => ?_)
          obtain ⟨rfl, F5, B5⟩ := q94
          refine je_goto (pc := 97) 8 d12028_97 (by decide) ?_
          refine fg_2 (kk (adR (prR U N xx.2.1) (vaR U N (avR U N xx))) _ ⟨(((j1.tr (moF.w (Or.inl rfl))).tr F3).tr F4).tr F5, mrI.bl B5 h3 (fun g => ?_), (st_i (va_gd hN) f j3).1, ⟨n - 1, by omega, ?_⟩, fun g => ?_⟩)
          · have g1 : (vaR U N (avR U N xx)).1 = 0 := by
              by_cases y : (vaR U N (avR U N xx)).1 = 0
              · exact y
              · rw [ad_f y] at g; exact g
            rw [ad_o g1]; exact e3 g1
          · have en : n = (n - 1) + 1 := by omega
            rw [j4, en, lpR, if_pos ⟨f, by rw [← eP]; exact (kp_e xo).2.2⟩, Nat.add_sub_cancel]
          · have := (st_i (x := prR U N xx.2.1) (va_gd hN) f j3).2 g
            have := j5 f
            omega
        · refine je_icne (pc := 48) 56 d12028_48 (by decide) (fun c48 => ?_) (fun c48 => ?_)
          · refine je_aload0 (pc := 56) d12028_56 rfl ?_
            refine ju_callv (pc := 57) (as := []) d12028_57 jL_12_220 jM_Mo_sign rfl (by decide) (sK253 B.1.1) rfl (by exact Nat.le_of_ble_eq_true rfl) (t_Mo_sign_R (d + 5) B hN (by omega)) (fun r57 h57 q57 => ?_)
            obtain ⟨rfl, e57⟩ := q57
            obtain rfl := e57.symm
            refine je_bipush (pc := 60) (v := 47) d12028_60 rfl ?_
            refine je_icne (pc := 62) 70 d12028_62 (by decide) (fun c62 => ?_) (fun c62 => ?_)
            · refine je_bipush (pc := 70) (v := 15) d12028_70 rfl ?_
              refine ju_eqi (v := (kpX (if p < N then U p else -1))) (by unfold kpX; rw [if_neg c48, if_neg c62]) ?_
              exact jn48
            · refine je_bipush (pc := 65) (v := 14) d12028_65 rfl ?_
              refine je_goto (pc := 67) 72 d12028_67 (by decide) ?_
              refine ju_eqi (v := (kpX (if p < N then U p else -1))) (by unfold kpX; rw [if_neg c48, if_pos c62]) ?_
              exact jn48
          · refine je_bipush (pc := 51) (v := 13) d12028_51 rfl ?_
            refine je_goto (pc := 53) 72 d12028_53 (by decide) ?_
            refine ju_eqi (v := (kpX (if p < N then U p else -1))) (by unfold kpX; rw [if_pos c48]) ?_
            exact jn48
      refine je_aload0 (pc := 15) d12028_15 rfl ?_
      refine ju_callv (pc := 16) (as := []) d12028_16 jL_12_220 jM_Mo_sign rfl (by decide) (sK253 B.1.1) rfl (by exact Nat.le_of_ble_eq_true rfl) (t_Mo_sign_R (d + 5) B hN (by omega)) (fun r16 h16 q16 => ?_)
      obtain ⟨rfl, e16⟩ := q16
      obtain rfl := e16.symm
      refine je_bipush (pc := 19) (v := 42) d12028_19 rfl ?_
      refine je_iceq (pc := 21) 42 d12028_21 (by decide) (fun c21 => ?_) (fun c21 => ?_)
      · exact K42 (Or.inl c21)
      · refine je_aload0 (pc := 24) d12028_24 rfl ?_
        refine ju_callv (pc := 25) (as := []) d12028_25 jL_12_220 jM_Mo_sign rfl (by decide) (sK253 B.1.1) rfl (by exact Nat.le_of_ble_eq_true rfl) (t_Mo_sign_R (d + 5) B hN (by omega)) (fun r25 h25 q25 => ?_)
        obtain ⟨rfl, e25⟩ := q25
        obtain rfl := e25.symm
        refine je_bipush (pc := 28) (v := 47) d12028_28 rfl ?_
        refine je_iceq (pc := 30) 42 d12028_30 (by decide) (fun c30 => ?_) (fun c30 => ?_)
        · exact K42 (Or.inr (Or.inl c30))
        · refine je_aload0 (pc := 33) d12028_33 rfl ?_
          refine ju_callv (pc := 34) (as := []) d12028_34 jL_12_220 jM_Mo_sign rfl (by decide) (sK253 B.1.1) rfl (by exact Nat.le_of_ble_eq_true rfl) (t_Mo_sign_R (d + 5) B hN (by omega)) (fun r34 h34 q34 => ?_)
          obtain ⟨rfl, e34⟩ := q34
          obtain rfl := e34.symm
          refine je_bipush (pc := 37) (v := 37) d12028_37 rfl ?_
          refine je_icne (pc := 39) 100 d12028_39 (by decide) (fun c39 => ?_) (fun c39 => ?_)
          · refine je_ret (pc := 100) d12028_100 rfl ?_
            have f := c12
            have e0 : prR U N xx.2.1 = 0 := by
              rw [pr_X, ← eB f]
              unfold prX
              rw [if_neg c39, if_neg c21, if_neg c30]
            have en : n = (n - 1) + 1 := by omega
            have e1 : lpR (avR U N) (vaR U N) (prR U N) n xx = xx := by rw [en, lpR, if_neg (fun z => z.2 e0)]
            rw [j4, e1]
            exact ⟨rfl, j1, p, hp, B, eB⟩
          · exact K42 (Or.inr (Or.inr c39))
  · obtain ⟨j1, ⟨p, hp, B, eB⟩, j3, ⟨n, hn, j4⟩, j5⟩ := e
    refine je_aload0 (pc := 8) d12028_8 rfl ?_
    refine ju_geti (pc := 9) d12028_9 jF_12_214 rfl (sK253 B.1.1) ?_
    refine ju_eqi (v := xx.1) B.2.1 ?_
    refine je_ifne (pc := 12) 100 d12028_12 (by decide) (fun c12 => ?_) (fun c12 => absurd c12 (fun z => by have := j5 z; have := (j3.1 z).2.2; omega))
    refine je_ret (pc := 100) d12028_100 rfl ?_
    rw [j4, lp_f c12]
    exact ⟨rfl, j1, p, hp, B, eB⟩
set_option maxHeartbeats 4000000 in
theorem t_Mo_sum (d : Nat) {bc bs : Nat} {h : jx_H} {N sl : Nat} {U : Nat → Int32} {s : RS} (B0 : mrI h N sl U s) (hN : N ≤ 400) (hsl : sl < 6) (I : iR U N s) : jx_Tr (d + 8) bc bs 12027 [.ref 253] h (fun r h' => r = none ∧ moF sl h h' ∧ mrJ h' N sl U (smR U N s)) := by
  refine jx_tr jM_Mo_sum rfl rfl (lv := [some (.ref 253), none]) rfl ?_
  refine je_aload0 (pc := 0) d12027_0 rfl ?_
  refine ju_callv (pc := 1) (as := []) d12027_1 jL_12_279 jM_Mo_term rfl (by decide) (sK253 B0.choose_spec.2.1.1.1) rfl (by exact Nat.le_of_ble_eq_true rfl) (t_Mo_term d B0 hN hsl I) (fun r1 h1 q1 => ?_)
  obtain ⟨rfl, F1, q1⟩ := q1
  refine je_loop (σ := RS) (61) (fun k xx => [some (.ref 253), none]) (fun k xx h' => moF sl h h' ∧ mrJ h' N sl U xx ∧ iR U N xx ∧ (∃ n, 61 ≤ n + k ∧ smR U N s = lpR (avR U N) (trR (avR U N) (vaR U N) (prR U N)) (suR U N) n xx) ∧ (xx.1 = 0 → k ≤ xx.2.2.1)) (fun k xx h' hk e kk => ?_) (fun xx h' e => ?_) (0) (trR (avR U N) (vaR U N) (prR U N) s) _ (by omega) ⟨F1, q1, gd_i (tr_gd (va_gd hN) jn_pr) I, ⟨61, by decide, rfl⟩, fun _ => Nat.zero_le _⟩
  · obtain ⟨j1, ⟨p, hp, B, eB⟩, j3, ⟨n, hn, j4⟩, j5⟩ := e
    refine je_aload0 (pc := 4) d12027_4 rfl ?_
    refine ju_geti (pc := 5) d12027_5 jF_12_214 rfl (sK253 B.1.1) ?_
    refine ju_eqi (v := xx.1) B.2.1 ?_
    refine je_ifne (pc := 8) 67 d12027_8 (by decide) (fun c8 => ?_) (fun c8 => ?_)
    · refine je_ret (pc := 67) d12027_67 rfl ?_
      rw [j4, lp_f c8]
      exact ⟨rfl, j1, p, hp, B, eB⟩
    · have f := c8
      have eP : suX (if p < N then U p else -1) = suR U N xx.2.1 := by rw [su_X, ← eB f]
      have K29 : (if p < N then U p else -1) = 43 ∨ (if p < N then U p else -1) = 45 → jx_Ev (d + 8) bc bs 12027 29 [some (.ref 253), none] [] h' (fun r h' => r = none ∧ moF sl h h' ∧ mrJ h' N sl U (smR U N s)) := by
        intro xo
        have pN : p < N := (one_E (T := U) (N := N) (b := p) rfl (Or.inr (Or.inr (Or.inr xo)))).1
        refine je_aload0 (pc := 29) d12027_29 rfl ?_
        refine ju_callv (pc := 30) (as := []) d12027_30 jL_12_220 jM_Mo_sign rfl (by decide) (sK253 B.1.1) rfl (by exact Nat.le_of_ble_eq_true rfl) (t_Mo_sign_R (d + 6) B hN (by omega)) (fun r30 h30 q30 => ?_)
        obtain ⟨rfl, e30⟩ := q30
        obtain rfl := e30.symm
        refine je_bipush (pc := 33) (v := 43) d12027_33 rfl ?_
        refine ju_tern2 (pc := 35) (V := (ksX (if p < N then U p else -1))) 43 ?_ (fun jn35 => ?_)
        · refine ju_istore1 (pc := 43) (lv' := [some _, some _]) d12027_43 rfl rfl ?_
          refine je_aload0 (pc := 44) d12027_44 rfl ?_
          refine je_dup (pc := 45) d12027_45 rfl ?_
          refine ju_geti (pc := 46) d12027_46 jF_12_217 rfl (sK253 B.1.1) ?_
          refine ju_eqi (v := nI p) B.2.2.1 ?_
          refine je_iconst (pc := 49) (v := 1) d12027_49 rfl ?_
          refine je_iadd (pc := 50) d12027_50 ?_
          refine ju_eqi (v := nI ((p) + 1)) (nI_add (p) 1) ?_
          refine ju_puti (pc := 51) d12027_51 jF_12_217 rfl (sK253 B.1.1) ?_
          have B2 := mrJ.av (q := p + 1) B f (by omega) (by rw [← eB f]; exact (one_E (T := U) (N := N) (b := p) rfl (Or.inr (Or.inr (Or.inr xo)))).2.symm)
          refine je_aload0 (pc := 54) d12027_54 rfl ?_
          refine ju_callv (pc := 55) (as := []) d12027_55 jL_12_279 jM_Mo_term rfl (by decide) (sK253 B.1.1.wI) rfl (by exact Nat.le_of_ble_eq_true rfl) (t_Mo_term d B2 hN hsl (av_i j3)) (fun r55 h55 q55 => ?_)
          obtain ⟨rfl, F3, p3, h3, B3, e3⟩ := q55
          refine je_aload0 (pc := 58) d12027_58 rfl ?_
          refine je_iload1 (pc := 59) d12027_59 rfl ?_
          refine je_iconst (pc := 60) (v := 0) d12027_60 rfl ?_
          refine ju_callv (pc := 61) (as := [_, _]) d12027_61 jL_12_269 jM_Mo_entry rfl (by decide) (sK253 B3.1.1) rfl (by exact Nat.le_of_ble_eq_true rfl) (t_Mo_entry (d + 6) (so := ksX (if p < N then U p else -1)) (nu := 0) B3 hsl (fun g => by have := i_len (gd_i (tr_gd (va_gd hN) jn_pr) (av_i j3)) hN g; omega) (fun _ => (ks_e xo).1)) (fun r61 h61 q61 => ?_)
          obtain ⟨rfl, F4, B4⟩ := q61
          rw [(ks_e xo).2.1, eP] at B4
          refine je_goto (pc := 64) 4 d12027_64 (by decide) ?_
          refine fg_2 (kk (adR (suR U N xx.2.1) (trR (avR U N) (vaR U N) (prR U N) (avR U N xx))) _ ⟨((j1.tr (moF.w (Or.inl rfl))).tr F3).tr F4, ⟨p3, h3, B4, fun g => ?_⟩, (st_i (tr_gd (va_gd hN) jn_pr) f j3).1, ⟨n - 1, by omega, ?_⟩, fun g => ?_⟩)
          · have g1 : (trR (avR U N) (vaR U N) (prR U N) (avR U N xx)).1 = 0 := by
              by_cases y : (trR (avR U N) (vaR U N) (prR U N) (avR U N xx)).1 = 0
              · exact y
              · rw [ad_f y] at g; exact g
            rw [ad_o g1]; exact e3 g1
          · have en : n = (n - 1) + 1 := by omega
            rw [j4, en, lpR, if_pos ⟨f, by rw [← eP]; exact (ks_e xo).2.2⟩, Nat.add_sub_cancel]
          · have := (st_i (x := suR U N xx.2.1) (tr_gd (va_gd hN) jn_pr) f j3).2 g
            have := j5 f
            omega
        · refine je_icne (pc := 35) 42 d12027_35 (by decide) (fun c35 => ?_) (fun c35 => ?_)
          · refine je_iconst (pc := 42) (v := 3) d12027_42 rfl ?_
            refine ju_eqi (v := (ksX (if p < N then U p else -1))) (by unfold ksX; rw [if_neg c35]) ?_
            exact jn35
          · refine je_iconst (pc := 38) (v := 2) d12027_38 rfl ?_
            refine je_goto (pc := 39) 43 d12027_39 (by decide) ?_
            refine ju_eqi (v := (ksX (if p < N then U p else -1))) (by unfold ksX; rw [if_pos c35]) ?_
            exact jn35
      refine je_aload0 (pc := 11) d12027_11 rfl ?_
      refine ju_callv (pc := 12) (as := []) d12027_12 jL_12_220 jM_Mo_sign rfl (by decide) (sK253 B.1.1) rfl (by exact Nat.le_of_ble_eq_true rfl) (t_Mo_sign_R (d + 6) B hN (by omega)) (fun r12 h12 q12 => ?_)
      obtain ⟨rfl, e12⟩ := q12
      obtain rfl := e12.symm
      refine je_bipush (pc := 15) (v := 43) d12027_15 rfl ?_
      refine je_iceq (pc := 17) 29 d12027_17 (by decide) (fun c17 => ?_) (fun c17 => ?_)
      · exact K29 (Or.inl c17)
      · refine je_aload0 (pc := 20) d12027_20 rfl ?_
        refine ju_callv (pc := 21) (as := []) d12027_21 jL_12_220 jM_Mo_sign rfl (by decide) (sK253 B.1.1) rfl (by exact Nat.le_of_ble_eq_true rfl) (t_Mo_sign_R (d + 6) B hN (by omega)) (fun r21 h21 q21 => ?_)
        obtain ⟨rfl, e21⟩ := q21
        obtain rfl := e21.symm
        refine je_bipush (pc := 24) (v := 45) d12027_24 rfl ?_
        refine je_icne (pc := 26) 67 d12027_26 (by decide) (fun c26 => ?_) (fun c26 => ?_)
        · refine je_ret (pc := 67) d12027_67 rfl ?_
          have f := c8
          have e0 : suR U N xx.2.1 = 0 := by
            rw [su_X, ← eB f]
            unfold suX
            rw [if_neg c17, if_neg c26]
          have en : n = (n - 1) + 1 := by omega
          have e1 : lpR (avR U N) (trR (avR U N) (vaR U N) (prR U N)) (suR U N) n xx = xx := by rw [en, lpR, if_neg (fun z => z.2 e0)]
          rw [j4, e1]
          exact ⟨rfl, j1, p, hp, B, eB⟩
        · exact K29 (Or.inr c26)
  · obtain ⟨j1, ⟨p, hp, B, eB⟩, j3, ⟨n, hn, j4⟩, j5⟩ := e
    refine je_aload0 (pc := 4) d12027_4 rfl ?_
    refine ju_geti (pc := 5) d12027_5 jF_12_214 rfl (sK253 B.1.1) ?_
    refine ju_eqi (v := xx.1) B.2.1 ?_
    refine je_ifne (pc := 8) 67 d12027_8 (by decide) (fun c8 => ?_) (fun c8 => absurd c8 (fun z => by have := j5 z; have := (j3.1 z).2.2; omega))
    refine je_ret (pc := 67) d12027_67 rfl ?_
    rw [j4, lp_f c8]
    exact ⟨rfl, j1, p, hp, B, eB⟩
