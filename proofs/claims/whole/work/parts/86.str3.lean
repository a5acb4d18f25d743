/-! a strip told: the class reads clauses -/
theorem wd_100 {e : Nat} (he : e < 44) : (sqO e).2.2.2.length ≤ 100 := Nat.le_of_lt (Nat.lt_of_lt_of_le (sq_all e he).2.2.1 (by decide))
theorem pt_f {T : Nat → Int32} {N k : Nat} {s : Int32 × Nat} {S : MS} (h : ¬ s.1 = 0) : ptS T N k s S = (s, S) := by
  have e : ptA T N k s S = s := by
    unfold ptA p0A p1A p2A p4A p5A p1c p2b p1b p2a p1a
    split <;> (repeat rw [am_f (s := s) h])
  unfold ptS
  rw [e, if_neg h]
theorem wd_tk {T : Nat → Int32} {N b : Nat} {w : List Int32} (h : stW T N b w) : tkE T N b = b + w.length := by
  have := tk_N (T := T) (N := N) (b := b) (by have := h.1.1; omega)
  have := h.2.1
  omega
theorem cl_6 {T : Nat → Int32} {N n q : Nat} {S : MS} (h : kdS T N (skB T N q) = 6) : clS T N n q S = ((fltI (skB T N q) 0, q), S) := by unfold clS; rw [if_pos h]
theorem cl_f {T : Nat → Int32} {N n q : Nat} {S : MS} (h : ¬ kdS T N (skB T N q) = 6) (f : flS n (kdS T N (skB T N q)) S = true) : clS T N n q S = ((fltI (skB T N q) 4, q), S) := by unfold clS; rw [if_neg h, if_pos f]
theorem cl_o {T : Nat → Int32} {N n q : Nat} {S : MS} (h : ¬ kdS T N (skB T N q) = 6) (f : ¬ flS n (kdS T N (skB T N q)) S = true) : clS T N n q S = ptS T N (kdS T N (skB T N q)) (0, tkE T N (skB T N q)) S := by unfold clS; rw [if_neg h, if_neg f]
set_option maxHeartbeats 2000000 in
theorem t_Sr_nameOf (d : Nat) {bc bs : Nat} {h : jx_H} {k : Nat} (hk : k < 6) : jx_Tr (d + 1) bc bs 2004 [.int (nI k)] h (fun r h' => r = some (.ref (1000000 + k)) ∧ h' = h) := by
  refine jx_tr jM_Sr_nameOf rfl rfl (lv := [some (.int (nI k))]) rfl ?_
  refine je_iload0 (pc := 0) d2004_0 rfl ?_
  by_cases s1_0 : nI k = 0
  · refine je_table (pc := 1) 36 d2004_1 (by rw [s1_0]; decide) (by rw [s1_0]; decide) (off := 35) (by rw [s1_0]; rfl) (by decide) ?_
    refine je_ldcS (pc := 36) (e := 0) d2004_36 rfl ?_
    refine je_aret (pc := 38) d2004_38 rfl ?_
    have ek : k = 0 := (nI_eq (by omega) (by decide)).mp s1_0
    subst ek
    exact ⟨rfl, rfl⟩
  by_cases s1_1 : nI k = 1
  · refine je_table (pc := 1) 39 d2004_1 (by rw [s1_1]; decide) (by rw [s1_1]; decide) (off := 38) (by rw [s1_1]; rfl) (by decide) ?_
    refine je_ldcS (pc := 39) (e := 1) d2004_39 rfl ?_
    refine je_aret (pc := 41) d2004_41 rfl ?_
    have ek : k = 1 := (nI_eq (by omega) (by decide)).mp s1_1
    subst ek
    exact ⟨rfl, rfl⟩
  by_cases s1_2 : nI k = 2
  · refine je_table (pc := 1) 42 d2004_1 (by rw [s1_2]; decide) (by rw [s1_2]; decide) (off := 41) (by rw [s1_2]; rfl) (by decide) ?_
    refine je_ldcS (pc := 42) (e := 2) d2004_42 rfl ?_
    refine je_aret (pc := 44) d2004_44 rfl ?_
    have ek : k = 2 := (nI_eq (by omega) (by decide)).mp s1_2
    subst ek
    exact ⟨rfl, rfl⟩
  by_cases s1_3 : nI k = 3
  · refine je_table (pc := 1) 45 d2004_1 (by rw [s1_3]; decide) (by rw [s1_3]; decide) (off := 44) (by rw [s1_3]; rfl) (by decide) ?_
    refine je_ldcS (pc := 45) (e := 3) d2004_45 rfl ?_
    refine je_aret (pc := 47) d2004_47 rfl ?_
    have ek : k = 3 := (nI_eq (by omega) (by decide)).mp s1_3
    subst ek
    exact ⟨rfl, rfl⟩
  by_cases s1_4 : nI k = 4
  · refine je_table (pc := 1) 48 d2004_1 (by rw [s1_4]; decide) (by rw [s1_4]; decide) (off := 47) (by rw [s1_4]; rfl) (by decide) ?_
    refine je_ldcS (pc := 48) (e := 4) d2004_48 rfl ?_
    refine je_aret (pc := 50) d2004_50 rfl ?_
    have ek : k = 4 := (nI_eq (by omega) (by decide)).mp s1_4
    subst ek
    exact ⟨rfl, rfl⟩
  have ns1_0 := lv_neT s1_0 (a := 0) rfl
  have ns1_1 := lv_neT s1_1 (a := 1) rfl
  have ns1_2 := lv_neT s1_2 (a := 2) rfl
  have ns1_3 := lv_neT s1_3 (a := 3) rfl
  have ns1_4 := lv_neT s1_4 (a := 4) rfl
  refine je_tableO (pc := 1) 51 d2004_1 (by omega) (by decide) ?_
  refine je_ldcS (pc := 51) (e := 5) d2004_51 rfl ?_
  refine je_aret (pc := 53) d2004_53 rfl ?_
  have ek : k = 5 := by
    have z0 : k ≠ 0 := fun z => s1_0 (by rw [z]; rfl)
    have z1 : k ≠ 1 := fun z => s1_1 (by rw [z]; rfl)
    have z2 : k ≠ 2 := fun z => s1_2 (by rw [z]; rfl)
    have z3 : k ≠ 3 := fun z => s1_3 (by rw [z]; rfl)
    have z4 : k ≠ 4 := fun z => s1_4 (by rw [z]; rfl)
    omega
  subst ek
  exact ⟨rfl, rfl⟩
set_option maxHeartbeats 2000000 in
theorem t_Sr_clauseKind (d : Nat) {bc bs : Nat} {h : jx_H} {N b : Nat} (H : jx_St h) (A : txA h N b) (hN : N ≤ 400) (hb : b ≤ N) (hT : bytT (h.2.1 3) N) : jx_Tr (d + 6) bc bs 2003 [.ref 4] h (fun r h' => r = some (.int (if kdS (h.2.1 3) N b = 6 then -1 else nI (kdS (h.2.1 3) N b))) ∧ h' = h) := by
  refine jx_tr jM_Sr_clauseKind rfl rfl (lv := [some (.ref 4), none]) rfl ?_
  have kl := kd_le (T := h.2.1 3) (N := N) (b := b)
  refine je_iconst (pc := 0) (v := 0) d2003_0 rfl ?_
  refine ju_istore1 (pc := 1) (lv' := [some _, some _]) d2003_1 rfl rfl ?_
  refine je_loop (σ := Unit) (kdS (h.2.1 3) N b) (fun k xx => [some (.ref 4), some (.int (nI k))]) (fun _ _ h' => h' = h) (fun k xx h' hk e kk => ?_) (fun xx h' e => ?_) (0) () h (by omega) rfl
  · obtain rfl := e.symm
    refine je_iload1 (pc := 2) d2003_2 rfl ?_
    refine je_bipush (pc := 3) (v := 6) d2003_3 rfl ?_
    refine jn_icge (pc := 5) (a := (k)) (b := 6) 30 d2003_5 (by decide) (by omega) (by omega) (fun c5 => by exfalso; omega) (fun c5 => ?_)
    refine je_aload0 (pc := 8) d2003_8 rfl ?_
    refine ju_getr (pc := 9) (b := 2) d2003_9 jF_2_18 rfl (sK4 H) (sR4_0 H) ?_
    refine je_iload1 (pc := 12) d2003_12 rfl ?_
    refine ju_calls (pc := 13) (as := [_]) d2003_13 jL_2_79 jM_Sr_nameOf rfl rfl (by exact Nat.le_of_ble_eq_true rfl) (t_Sr_nameOf (d + 4) (k := k) (by omega)) (fun r13 h13 q13 => ?_)
    obtain ⟨rfl, e13⟩ := q13
    obtain rfl := e13.symm
    refine ju_callv (pc := 16) (as := [_]) d2003_16 jL_2_83 jM_Tx_isWord rfl (by decide) (sK2 H) rfl (by exact Nat.le_of_ble_eq_true rfl) (t_Tx_isWord (d + 0) (e := k) (q := sqO (k)) (sq_q (by omega)) (wd_100 (by omega)) H A hN hb hT) (fun r16 h16 q16 => ?_)
    obtain ⟨rfl, e16⟩ := q16
    obtain rfl := e16.symm
    refine jb_ifeq (pc := 19) 24 d2003_19 (by decide) (fun c19 => ?_) (fun c19 => absurd c19 (kd_no hk))
    refine ju_incN (pc := 24) (v := nI ((k) + 1)) (lv' := [some _, some _]) d2003_24 rfl (nI_1 (k)) rfl ?_
    refine je_goto (pc := 27) 2 d2003_27 (by decide) ?_
    refine kk () _ rfl
  · obtain rfl := e.symm
    refine je_iload1 (pc := 2) d2003_2 rfl ?_
    refine je_bipush (pc := 3) (v := 6) d2003_3 rfl ?_
    refine jn_icge (pc := 5) (a := ((kdS (h.2.1 3) N b))) (b := 6) 30 d2003_5 (by decide) (by omega) (by omega) (fun c5 => ?_) (fun c5 => ?_)
    · refine je_iconst (pc := 30) (v := -1) d2003_30 rfl ?_
      refine je_iret (pc := 31) d2003_31 rfl ?_
      have e6 : kdS (h.2.1 3) N b = 6 := by omega
      exact ⟨by rw [if_pos e6], rfl⟩
    · refine je_aload0 (pc := 8) d2003_8 rfl ?_
      refine ju_getr (pc := 9) (b := 2) d2003_9 jF_2_18 rfl (sK4 H) (sR4_0 H) ?_
      refine je_iload1 (pc := 12) d2003_12 rfl ?_
      refine ju_calls (pc := 13) (as := [_]) d2003_13 jL_2_79 jM_Sr_nameOf rfl rfl (by exact Nat.le_of_ble_eq_true rfl) (t_Sr_nameOf (d + 4) (k := kdS (h.2.1 3) N b) (by omega)) (fun r13 h13 q13 => ?_)
      obtain ⟨rfl, e13⟩ := q13
      obtain rfl := e13.symm
      refine ju_callv (pc := 16) (as := [_]) d2003_16 jL_2_83 jM_Tx_isWord rfl (by decide) (sK2 H) rfl (by exact Nat.le_of_ble_eq_true rfl) (t_Tx_isWord (d + 0) (e := kdS (h.2.1 3) N b) (q := sqO (kdS (h.2.1 3) N b)) (sq_q (by omega)) (wd_100 (by omega)) H A hN hb hT) (fun r16 h16 q16 => ?_)
      obtain ⟨rfl, e16⟩ := q16
      obtain rfl := e16.symm
      refine jb_ifeq (pc := 19) 24 d2003_19 (by decide) (fun c19 => absurd c19 (fun z => z (kd_is (by omega)))) (fun c19 => ?_)
      refine je_iload1 (pc := 22) d2003_22 rfl ?_
      refine je_iret (pc := 23) d2003_23 rfl ?_
      have e6 : ¬ kdS (h.2.1 3) N b = 6 := by omega
      exact ⟨by rw [if_neg e6], rfl⟩
set_option maxHeartbeats 2000000 in
theorem t_Sr_readClause_6 (d : Nat) {bc bs : Nat} {h : jx_H} {N a n q : Nat} {S : MS} (H : jx_St h) (X : txS h N (0, q)) (hn : n ≤ 40) (hN : N ≤ 400) (hT : bytT (h.2.1 3) N) (ha : 304 ≤ a) (SP : jx_Sp h a) (RA : h.2.2.2 4 1 = some a) (R : rS h.2.1 a S) (W : S.1.1 ≤ 10 ∧ S.1.2.1 ≤ 8 ∧ S.1.2.2.1 ≤ 8) (hk : kdS (h.2.1 3) N (skB (h.2.1 3) N q) = 6) : jx_Tr (d + 7) bc bs 2002 [.ref 4, .int (nI n)] h (fun r h' => r = none ∧ fC (stA a) h h' ∧ txS h' N (clS (h.2.1 3) N n q S).1 ∧ rS h'.2.1 a (clS (h.2.1 3) N n q S).2) := by
  refine jx_tr jM_Sr_readClause rfl rfl (lv := [some (.ref 4), some (.int (nI n)), none, none]) rfl ?_
  have q1 := X.1
  obtain ⟨hq, A⟩ := X.2.2.1 rfl
  have f0 : h.2.1 2 5 = 0 := X.2.1
  have hb : skB (h.2.1 3) N q ≤ N := sk_N hq
  refine je_aload0 (pc := 0) d2002_0 rfl ?_
  refine ju_callv (pc := 1) (as := []) d2002_1 jL_2_44 jM_Sr_clauseKind rfl (by decide) (sK4 H) rfl (by exact Nat.le_of_ble_eq_true rfl) (t_Sr_clauseKind d H A hN hb hT) (fun r1 h1 q1 => ?_)
  obtain ⟨rfl, e1⟩ := q1
  obtain rfl := e1.symm
  refine ju_eqi (v := -1) (by rw [if_pos hk]) ?_
  refine ju_istore2 (pc := 4) (lv' := [some _, some _, some _, none]) d2002_4 rfl rfl ?_
  refine je_iload2 (pc := 5) d2002_5 rfl ?_
  refine je_iconst (pc := 6) (v := 4) d2002_6 rfl ?_
  refine je_icne (pc := 7) 22 d2002_7 (by decide) (fun c7 => ?_) (fun c7 => absurd c7 (by decide))
  refine je_iload2 (pc := 22) d2002_22 rfl ?_
  refine je_iconst (pc := 23) (v := 5) d2002_23 rfl ?_
  refine je_icne (pc := 24) 43 d2002_24 (by decide) (fun c24 => ?_) (fun c24 => absurd c24 (by decide))
  refine je_iconst (pc := 43) (v := 0) d2002_43 rfl ?_
  refine ju_istore3 (pc := 44) (lv' := [some _, some _, some _, some _]) d2002_44 rfl rfl ?_
  refine je_iload2 (pc := 45) d2002_45 rfl ?_
  refine je_iconst (pc := 46) (v := -1) d2002_46 rfl ?_
  refine je_icne (pc := 47) 61 d2002_47 (by decide) (fun c47 => absurd c47 (fun z => z rfl)) (fun c47 => ?_)
  refine je_aload0 (pc := 50) d2002_50 rfl ?_
  refine ju_getr (pc := 51) (b := 2) d2002_51 jF_2_18 rfl (sK4 H) (sR4_0 H) ?_
  refine je_iconst (pc := 54) (v := 0) d2002_54 rfl ?_
  refine ju_callv (pc := 55) (as := [_]) d2002_55 jL_2_55 jM_Tx_blame rfl (by decide) (sK2 H) rfl (by exact Nat.le_of_ble_eq_true rfl) (t_Tx_blame (d + 5) (b := skB (h.2.1 3) N q) (c := 0) H f0 A.2.1 (by decide) (by omega)) (fun r55 h55 q55 => ?_)
  obtain ⟨rfl, eb⟩ := q55
  obtain ⟨xb, fb⟩ := txS.bad (p := q) q1 eb (show skB (h.2.1 3) N q ≤ 400 by omega) (show 0 ≤ 4 by decide)
  have Hb := fb.St H
  have SPb := fb.Sp SP
  have Rb := fb.rr RA
  have nz : ¬ fltI (skB (h.2.1 3) N q) 0 = 0 := flt_nz (by omega) (by decide)
  have eTb : h55.2.1 3 = h.2.1 3 := fb.2 3 (by decide)
  refine je_goto (pc := 58) 100 d2002_58 (by decide) ?_
  refine je_aload0 (pc := 100) d2002_100 rfl ?_
  refine ju_getr (pc := 101) (b := 2) d2002_101 jF_2_18 rfl (sK4 Hb) (sR4_0 Hb) ?_
  refine ju_callv (pc := 104) (as := []) d2002_104 jL_2_58 jM_Tx_advance rfl (by decide) (sK2 Hb) rfl (by exact Nat.le_of_ble_eq_true rfl) (t_Tx_advance_n (d + 3) Hb xb.2.1 nz) (fun r104 h104 q104 => ?_)
  obtain ⟨rfl, e104⟩ := q104
  obtain rfl := e104.symm
  refine je_iload2 (pc := 107) d2002_107 rfl ?_
  refine je_tableO (pc := 108) 190 d2002_108 (by decide) (by decide) ?_
  refine je_ret (pc := 190) d2002_190 rfl ?_
  rw [cl_6 hk]
  exact ⟨rfl, fb.sa, xb, R.of (fun b b1 b2 => fb.2 b (by omega))⟩
set_option maxHeartbeats 4000000 in
theorem t_Sr_readClause_0 (d : Nat) {bc bs : Nat} {h : jx_H} {N a n q : Nat} {S : MS} (H : jx_St h) (X : txS h N (0, q)) (hn : n ≤ 40) (hN : N ≤ 400) (hT : bytT (h.2.1 3) N) (ha : 304 ≤ a) (SP : jx_Sp h a) (RA : h.2.2.2 4 1 = some a) (R : rS h.2.1 a S) (W : S.1.1 ≤ 10 ∧ S.1.2.1 ≤ 8 ∧ S.1.2.2.1 ≤ 8) (hk : kdS (h.2.1 3) N (skB (h.2.1 3) N q) = 0) : jx_Tr (d + 7) bc bs 2002 [.ref 4, .int (nI n)] h (fun r h' => r = none ∧ fC (stA a) h h' ∧ txS h' N (clS (h.2.1 3) N n q S).1 ∧ rS h'.2.1 a (clS (h.2.1 3) N n q S).2) := by
  refine jx_tr jM_Sr_readClause rfl rfl (lv := [some (.ref 4), some (.int (nI n)), none, none]) rfl ?_
  have q1 := X.1
  obtain ⟨hq, A⟩ := X.2.2.1 rfl
  have f0 : h.2.1 2 5 = 0 := X.2.1
  have hb : skB (h.2.1 3) N q ≤ N := sk_N hq
  have KB : flS n 0 S = true → jx_Ev (d + 7) bc bs 2002 92 [some (.ref 4), some (.int (nI n)), some (.int (nI 0)), some (.int 0)] [] h (fun r h' => r = none ∧ fC (stA a) h h' ∧ txS h' N (clS (h.2.1 3) N n q S).1 ∧ rS h'.2.1 a (clS (h.2.1 3) N n q S).2) := by
    intro fl
    refine je_aload0 (pc := 92) d2002_92 rfl ?_
    refine ju_getr (pc := 93) (b := 2) d2002_93 jF_2_18 rfl (sK4 H) (sR4_0 H) ?_
    refine je_iconst (pc := 96) (v := 4) d2002_96 rfl ?_
    refine ju_callv (pc := 97) (as := [_]) d2002_97 jL_2_55 jM_Tx_blame rfl (by decide) (sK2 H) rfl (by exact Nat.le_of_ble_eq_true rfl) (t_Tx_blame (d + 5) (b := skB (h.2.1 3) N q) (c := 4) H f0 A.2.1 (by decide) (by omega)) (fun r97 h97 q97 => ?_)
    obtain ⟨rfl, eb⟩ := q97
    obtain ⟨xb, fb⟩ := txS.bad (p := q) q1 eb (show skB (h.2.1 3) N q ≤ 400 by omega) (show 4 ≤ 4 by decide)
    have Hb := fb.St H
    have SPb := fb.Sp SP
    have Rb := fb.rr RA
    have nz : ¬ fltI (skB (h.2.1 3) N q) 4 = 0 := flt_nz (by omega) (by decide)
    have eTb : h97.2.1 3 = h.2.1 3 := fb.2 3 (by decide)
    refine je_aload0 (pc := 100) d2002_100 rfl ?_
    refine ju_getr (pc := 101) (b := 2) d2002_101 jF_2_18 rfl (sK4 Hb) (sR4_0 Hb) ?_
    refine ju_callv (pc := 104) (as := []) d2002_104 jL_2_58 jM_Tx_advance rfl (by decide) (sK2 Hb) rfl (by exact Nat.le_of_ble_eq_true rfl) (t_Tx_advance_n (d + 3) Hb xb.2.1 nz) (fun r104 h104 q104 => ?_)
    obtain ⟨rfl, e104⟩ := q104
    obtain rfl := e104.symm
    refine je_iload2 (pc := 107) d2002_107 rfl ?_
    refine je_table (pc := 108) 148 d2002_108 (by decide) (by decide) (off := 40) rfl (by decide) ?_
    refine je_aload0 (pc := 148) d2002_148 rfl ?_
    refine ju_callv (pc := 149) (as := []) d2002_149 jL_2_61 jM_Sr_readStrip rfl (by decide) (sK4 Hb) rfl (by exact Nat.le_of_ble_eq_true rfl) (t_Sr_readStrip d (N := N) (a := a) (s := (fltI (skB (h.2.1 3) N q) 4, q)) (S := S) Hb xb hq hN (by rw [eTb]; exact hT) ha SPb Rb (R.of (fun b b1 b2 => fb.2 b (by omega))) W) (fun r149 h149 q149 => ?_)
    obtain ⟨rfl, g1, g2, g3⟩ := q149
    rw [pt_f nz] at g2 g3
    refine je_goto (pc := 152) 190 d2002_152 (by decide) ?_
    refine je_ret (pc := 190) d2002_190 rfl ?_
    rw [cl_f (by rw [hk]; decide) (by rw [hk]; exact fl)]
    exact ⟨rfl, fb.sa.tr g1, g2, g3⟩
  have KG : ¬ flS n 0 S = true → jx_Ev (d + 7) bc bs 2002 100 [some (.ref 4), some (.int (nI n)), some (.int (nI 0)), some (.int 0)] [] h (fun r h' => r = none ∧ fC (stA a) h h' ∧ txS h' N (clS (h.2.1 3) N n q S).1 ∧ rS h'.2.1 a (clS (h.2.1 3) N n q S).2) := by
    intro fl
    refine je_aload0 (pc := 100) d2002_100 rfl ?_
    refine ju_getr (pc := 101) (b := 2) d2002_101 jF_2_18 rfl (sK4 H) (sR4_0 H) ?_
    refine ju_callv (pc := 104) (as := []) d2002_104 jL_2_58 jM_Tx_advance rfl (by decide) (sK2 H) rfl (by exact Nat.le_of_ble_eq_true rfl) (t_Tx_advance (d + 3) (N := N) (u := tkE (h.2.1 3) N (skB (h.2.1 3) N q)) H q1 A.2.2.1 hN (tk_N hb).2 f0) (fun r104 h104 q104 => ?_)
    obtain ⟨rfl, fa, j1, A2⟩ := q104
    have Ha := fa.St H
    have SPa := fa.Sp SP
    have Ra := fa.rr RA
    have eTa : h104.2.1 3 = h.2.1 3 := fa.2 3 (by decide)
    have xa : txS h104 N (0, tkE (h.2.1 3) N (skB (h.2.1 3) N q)) := ⟨(j1 1 (by decide) (by decide) (by decide)).trans q1, (j1 5 (by decide) (by decide) (by decide)).trans f0, fun _ => ⟨(tk_N hb).2, by rw [eTa]; exact A2⟩, fun z => absurd rfl z⟩
    refine je_iload2 (pc := 107) d2002_107 rfl ?_
    refine je_table (pc := 108) 148 d2002_108 (by decide) (by decide) (off := 40) rfl (by decide) ?_
    refine je_aload0 (pc := 148) d2002_148 rfl ?_
    refine ju_callv (pc := 149) (as := []) d2002_149 jL_2_61 jM_Sr_readStrip rfl (by decide) (sK4 Ha) rfl (by exact Nat.le_of_ble_eq_true rfl) (t_Sr_readStrip d (N := N) (a := a) (s := (0, tkE (h.2.1 3) N (skB (h.2.1 3) N q))) (S := S) Ha xa (tk_N hb).2 hN (by rw [eTa]; exact hT) ha SPa Ra (R.of (fun b b1 b2 => fa.2 b (by omega))) W) (fun r149 h149 q149 => ?_)
    obtain ⟨rfl, g1, g2, g3⟩ := q149
    rw [eTa] at g2 g3
    refine je_goto (pc := 152) 190 d2002_152 (by decide) ?_
    refine je_ret (pc := 190) d2002_190 rfl ?_
    rw [cl_o (by rw [hk]; decide) (by rw [hk]; exact fl), hk]
    exact ⟨rfl, fa.sa.tr g1, g2, g3⟩
  by_cases n0 : n = 0
  · skip
    refine je_aload0 (pc := 0) d2002_0 rfl ?_
    refine ju_callv (pc := 1) (as := []) d2002_1 jL_2_44 jM_Sr_clauseKind rfl (by decide) (sK4 H) rfl (by exact Nat.le_of_ble_eq_true rfl) (t_Sr_clauseKind d H A hN hb hT) (fun r1 h1 q1 => ?_)
    obtain ⟨rfl, e1⟩ := q1
    obtain rfl := e1.symm
    refine ju_eqi (v := nI 0) (by rw [hk]; rfl) ?_
    refine ju_istore2 (pc := 4) (lv' := [some _, some _, some _, none]) d2002_4 rfl rfl ?_
    refine je_iload2 (pc := 5) d2002_5 rfl ?_
    refine je_iconst (pc := 6) (v := 4) d2002_6 rfl ?_
    refine jn_icne (pc := 7) (a := 0) (b := 4) 22 d2002_7 (by decide) (by omega) (by omega) (fun c7 => ?_) (fun c7 => by exfalso; omega)
    refine je_iload2 (pc := 22) d2002_22 rfl ?_
    refine je_iconst (pc := 23) (v := 5) d2002_23 rfl ?_
    refine jn_icne (pc := 24) (a := 0) (b := 5) 43 d2002_24 (by decide) (by omega) (by omega) (fun c24 => ?_) (fun c24 => by exfalso; omega)
    refine je_iconst (pc := 43) (v := 0) d2002_43 rfl ?_
    refine ju_istore3 (pc := 44) (lv' := [some _, some _, some _, some _]) d2002_44 rfl rfl ?_
    refine je_iload2 (pc := 45) d2002_45 rfl ?_
    refine je_iconst (pc := 46) (v := -1) d2002_46 rfl ?_
    refine je_icne (pc := 47) 61 d2002_47 (by decide) (fun c47 => ?_) (fun c47 => absurd c47 (by decide))
    refine je_iload2 (pc := 61) d2002_61 rfl ?_
    refine jn_ifne (pc := 62) (a := 0) 69 d2002_62 (by decide) (by omega) (fun c62 => by exfalso; omega) (fun c62 => ?_)
    refine je_iconst (pc := 65) (v := 1) d2002_65 rfl ?_
    refine je_goto (pc := 66) 70 d2002_66 (by decide) ?_
    refine je_iload1 (pc := 70) d2002_70 rfl ?_
    refine jn_ifne (pc := 71) (a := (n)) 78 d2002_71 (by decide) (by omega) (fun c71 => by exfalso; omega) (fun c71 => ?_)
    refine je_iconst (pc := 74) (v := 1) d2002_74 rfl ?_
    refine je_goto (pc := 75) 79 d2002_75 (by decide) ?_
    refine jn_icne (pc := 79) (a := 1) (b := 1) 92 d2002_79 (by decide) (by omega) (by omega) (fun c79 => by exfalso; omega) (fun c79 => ?_)
    refine je_iload1 (pc := 82) d2002_82 rfl ?_
    refine je_bipush (pc := 83) (v := 40) d2002_83 rfl ?_
    refine jn_icge (pc := 85) (a := (n)) (b := 40) 92 d2002_85 (by decide) (by omega) (by omega) (fun c85 => by exfalso; omega) (fun c85 => ?_)
    refine je_iload3 (pc := 88) d2002_88 rfl ?_
    refine jn_ifeq (pc := 89) (a := 0) 100 d2002_89 (by decide) (by omega) (fun c89 => ?_) (fun c89 => by exfalso; omega)
    exact KG (fun z => by have := of_decide_eq_true z; omega)
  · skip
    refine je_aload0 (pc := 0) d2002_0 rfl ?_
    refine ju_callv (pc := 1) (as := []) d2002_1 jL_2_44 jM_Sr_clauseKind rfl (by decide) (sK4 H) rfl (by exact Nat.le_of_ble_eq_true rfl) (t_Sr_clauseKind d H A hN hb hT) (fun r1 h1 q1 => ?_)
    obtain ⟨rfl, e1⟩ := q1
    obtain rfl := e1.symm
    refine ju_eqi (v := nI 0) (by rw [hk]; rfl) ?_
    refine ju_istore2 (pc := 4) (lv' := [some _, some _, some _, none]) d2002_4 rfl rfl ?_
    refine je_iload2 (pc := 5) d2002_5 rfl ?_
    refine je_iconst (pc := 6) (v := 4) d2002_6 rfl ?_
    refine jn_icne (pc := 7) (a := 0) (b := 4) 22 d2002_7 (by decide) (by omega) (by omega) (fun c7 => ?_) (fun c7 => by exfalso; omega)
    refine je_iload2 (pc := 22) d2002_22 rfl ?_
    refine je_iconst (pc := 23) (v := 5) d2002_23 rfl ?_
    refine jn_icne (pc := 24) (a := 0) (b := 5) 43 d2002_24 (by decide) (by omega) (by omega) (fun c24 => ?_) (fun c24 => by exfalso; omega)
    refine je_iconst (pc := 43) (v := 0) d2002_43 rfl ?_
    refine ju_istore3 (pc := 44) (lv' := [some _, some _, some _, some _]) d2002_44 rfl rfl ?_
    refine je_iload2 (pc := 45) d2002_45 rfl ?_
    refine je_iconst (pc := 46) (v := -1) d2002_46 rfl ?_
    refine je_icne (pc := 47) 61 d2002_47 (by decide) (fun c47 => ?_) (fun c47 => absurd c47 (by decide))
    refine je_iload2 (pc := 61) d2002_61 rfl ?_
    refine jn_ifne (pc := 62) (a := 0) 69 d2002_62 (by decide) (by omega) (fun c62 => by exfalso; omega) (fun c62 => ?_)
    refine je_iconst (pc := 65) (v := 1) d2002_65 rfl ?_
    refine je_goto (pc := 66) 70 d2002_66 (by decide) ?_
    refine je_iload1 (pc := 70) d2002_70 rfl ?_
    refine jn_ifne (pc := 71) (a := (n)) 78 d2002_71 (by decide) (by omega) (fun c71 => ?_) (fun c71 => by exfalso; omega)
    refine je_iconst (pc := 78) (v := 0) d2002_78 rfl ?_
    refine jn_icne (pc := 79) (a := 1) (b := 0) 92 d2002_79 (by decide) (by omega) (by omega) (fun c79 => ?_) (fun c79 => by exfalso; omega)
    exact KB (decide_eq_true (by omega))
set_option maxHeartbeats 4000000 in
theorem t_Sr_readClause_1 (d : Nat) {bc bs : Nat} {h : jx_H} {N a n q : Nat} {S : MS} (H : jx_St h) (X : txS h N (0, q)) (hn : n ≤ 40) (hN : N ≤ 400) (hT : bytT (h.2.1 3) N) (ha : 304 ≤ a) (SP : jx_Sp h a) (RA : h.2.2.2 4 1 = some a) (R : rS h.2.1 a S) (W : S.1.1 ≤ 10 ∧ S.1.2.1 ≤ 8 ∧ S.1.2.2.1 ≤ 8) (hk : kdS (h.2.1 3) N (skB (h.2.1 3) N q) = 1) : jx_Tr (d + 7) bc bs 2002 [.ref 4, .int (nI n)] h (fun r h' => r = none ∧ fC (stA a) h h' ∧ txS h' N (clS (h.2.1 3) N n q S).1 ∧ rS h'.2.1 a (clS (h.2.1 3) N n q S).2) := by
  refine jx_tr jM_Sr_readClause rfl rfl (lv := [some (.ref 4), some (.int (nI n)), none, none]) rfl ?_
  have q1 := X.1
  obtain ⟨hq, A⟩ := X.2.2.1 rfl
  have f0 : h.2.1 2 5 = 0 := X.2.1
  have hb : skB (h.2.1 3) N q ≤ N := sk_N hq
  have KB : flS n 1 S = true → jx_Ev (d + 7) bc bs 2002 92 [some (.ref 4), some (.int (nI n)), some (.int (nI 1)), some (.int 0)] [] h (fun r h' => r = none ∧ fC (stA a) h h' ∧ txS h' N (clS (h.2.1 3) N n q S).1 ∧ rS h'.2.1 a (clS (h.2.1 3) N n q S).2) := by
    intro fl
    refine je_aload0 (pc := 92) d2002_92 rfl ?_
    refine ju_getr (pc := 93) (b := 2) d2002_93 jF_2_18 rfl (sK4 H) (sR4_0 H) ?_
    refine je_iconst (pc := 96) (v := 4) d2002_96 rfl ?_
    refine ju_callv (pc := 97) (as := [_]) d2002_97 jL_2_55 jM_Tx_blame rfl (by decide) (sK2 H) rfl (by exact Nat.le_of_ble_eq_true rfl) (t_Tx_blame (d + 5) (b := skB (h.2.1 3) N q) (c := 4) H f0 A.2.1 (by decide) (by omega)) (fun r97 h97 q97 => ?_)
    obtain ⟨rfl, eb⟩ := q97
    obtain ⟨xb, fb⟩ := txS.bad (p := q) q1 eb (show skB (h.2.1 3) N q ≤ 400 by omega) (show 4 ≤ 4 by decide)
    have Hb := fb.St H
    have SPb := fb.Sp SP
    have Rb := fb.rr RA
    have nz : ¬ fltI (skB (h.2.1 3) N q) 4 = 0 := flt_nz (by omega) (by decide)
    have eTb : h97.2.1 3 = h.2.1 3 := fb.2 3 (by decide)
    refine je_aload0 (pc := 100) d2002_100 rfl ?_
    refine ju_getr (pc := 101) (b := 2) d2002_101 jF_2_18 rfl (sK4 Hb) (sR4_0 Hb) ?_
    refine ju_callv (pc := 104) (as := []) d2002_104 jL_2_58 jM_Tx_advance rfl (by decide) (sK2 Hb) rfl (by exact Nat.le_of_ble_eq_true rfl) (t_Tx_advance_n (d + 3) Hb xb.2.1 nz) (fun r104 h104 q104 => ?_)
    obtain ⟨rfl, e104⟩ := q104
    obtain rfl := e104.symm
    refine je_iload2 (pc := 107) d2002_107 rfl ?_
    refine je_table (pc := 108) 155 d2002_108 (by decide) (by decide) (off := 47) rfl (by decide) ?_
    refine je_aload0 (pc := 155) d2002_155 rfl ?_
    refine ju_callv (pc := 156) (as := []) d2002_156 jL_2_64 jM_Sr_readMile rfl (by decide) (sK4 Hb) rfl (by exact Nat.le_of_ble_eq_true rfl) (t_Sr_readMile d (N := N) (a := a) (s := (fltI (skB (h.2.1 3) N q) 4, q)) (S := S) Hb xb hq hN (by rw [eTb]; exact hT) ha SPb Rb (R.of (fun b b1 b2 => fb.2 b (by omega))) W) (fun r156 h156 q156 => ?_)
    obtain ⟨rfl, g1, g2, g3⟩ := q156
    rw [pt_f nz] at g2 g3
    refine je_goto (pc := 159) 190 d2002_159 (by decide) ?_
    refine je_ret (pc := 190) d2002_190 rfl ?_
    rw [cl_f (by rw [hk]; decide) (by rw [hk]; exact fl)]
    exact ⟨rfl, fb.sa.tr g1, g2, g3⟩
  have KG : ¬ flS n 1 S = true → jx_Ev (d + 7) bc bs 2002 100 [some (.ref 4), some (.int (nI n)), some (.int (nI 1)), some (.int 0)] [] h (fun r h' => r = none ∧ fC (stA a) h h' ∧ txS h' N (clS (h.2.1 3) N n q S).1 ∧ rS h'.2.1 a (clS (h.2.1 3) N n q S).2) := by
    intro fl
    refine je_aload0 (pc := 100) d2002_100 rfl ?_
    refine ju_getr (pc := 101) (b := 2) d2002_101 jF_2_18 rfl (sK4 H) (sR4_0 H) ?_
    refine ju_callv (pc := 104) (as := []) d2002_104 jL_2_58 jM_Tx_advance rfl (by decide) (sK2 H) rfl (by exact Nat.le_of_ble_eq_true rfl) (t_Tx_advance (d + 3) (N := N) (u := tkE (h.2.1 3) N (skB (h.2.1 3) N q)) H q1 A.2.2.1 hN (tk_N hb).2 f0) (fun r104 h104 q104 => ?_)
    obtain ⟨rfl, fa, j1, A2⟩ := q104
    have Ha := fa.St H
    have SPa := fa.Sp SP
    have Ra := fa.rr RA
    have eTa : h104.2.1 3 = h.2.1 3 := fa.2 3 (by decide)
    have xa : txS h104 N (0, tkE (h.2.1 3) N (skB (h.2.1 3) N q)) := ⟨(j1 1 (by decide) (by decide) (by decide)).trans q1, (j1 5 (by decide) (by decide) (by decide)).trans f0, fun _ => ⟨(tk_N hb).2, by rw [eTa]; exact A2⟩, fun z => absurd rfl z⟩
    refine je_iload2 (pc := 107) d2002_107 rfl ?_
    refine je_table (pc := 108) 155 d2002_108 (by decide) (by decide) (off := 47) rfl (by decide) ?_
    refine je_aload0 (pc := 155) d2002_155 rfl ?_
    refine ju_callv (pc := 156) (as := []) d2002_156 jL_2_64 jM_Sr_readMile rfl (by decide) (sK4 Ha) rfl (by exact Nat.le_of_ble_eq_true rfl) (t_Sr_readMile d (N := N) (a := a) (s := (0, tkE (h.2.1 3) N (skB (h.2.1 3) N q))) (S := S) Ha xa (tk_N hb).2 hN (by rw [eTa]; exact hT) ha SPa Ra (R.of (fun b b1 b2 => fa.2 b (by omega))) W) (fun r156 h156 q156 => ?_)
    obtain ⟨rfl, g1, g2, g3⟩ := q156
    rw [eTa] at g2 g3
    refine je_goto (pc := 159) 190 d2002_159 (by decide) ?_
    refine je_ret (pc := 190) d2002_190 rfl ?_
    rw [cl_o (by rw [hk]; decide) (by rw [hk]; exact fl), hk]
    exact ⟨rfl, fa.sa.tr g1, g2, g3⟩
  by_cases n0 : n = 0
  · skip
    refine je_aload0 (pc := 0) d2002_0 rfl ?_
    refine ju_callv (pc := 1) (as := []) d2002_1 jL_2_44 jM_Sr_clauseKind rfl (by decide) (sK4 H) rfl (by exact Nat.le_of_ble_eq_true rfl) (t_Sr_clauseKind d H A hN hb hT) (fun r1 h1 q1 => ?_)
    obtain ⟨rfl, e1⟩ := q1
    obtain rfl := e1.symm
    refine ju_eqi (v := nI 1) (by rw [hk]; rfl) ?_
    refine ju_istore2 (pc := 4) (lv' := [some _, some _, some _, none]) d2002_4 rfl rfl ?_
    refine je_iload2 (pc := 5) d2002_5 rfl ?_
    refine je_iconst (pc := 6) (v := 4) d2002_6 rfl ?_
    refine jn_icne (pc := 7) (a := 1) (b := 4) 22 d2002_7 (by decide) (by omega) (by omega) (fun c7 => ?_) (fun c7 => by exfalso; omega)
    refine je_iload2 (pc := 22) d2002_22 rfl ?_
    refine je_iconst (pc := 23) (v := 5) d2002_23 rfl ?_
    refine jn_icne (pc := 24) (a := 1) (b := 5) 43 d2002_24 (by decide) (by omega) (by omega) (fun c24 => ?_) (fun c24 => by exfalso; omega)
    refine je_iconst (pc := 43) (v := 0) d2002_43 rfl ?_
    refine ju_istore3 (pc := 44) (lv' := [some _, some _, some _, some _]) d2002_44 rfl rfl ?_
    refine je_iload2 (pc := 45) d2002_45 rfl ?_
    refine je_iconst (pc := 46) (v := -1) d2002_46 rfl ?_
    refine je_icne (pc := 47) 61 d2002_47 (by decide) (fun c47 => ?_) (fun c47 => absurd c47 (by decide))
    refine je_iload2 (pc := 61) d2002_61 rfl ?_
    refine jn_ifne (pc := 62) (a := 1) 69 d2002_62 (by decide) (by omega) (fun c62 => ?_) (fun c62 => by exfalso; omega)
    refine je_iconst (pc := 69) (v := 0) d2002_69 rfl ?_
    refine je_iload1 (pc := 70) d2002_70 rfl ?_
    refine jn_ifne (pc := 71) (a := (n)) 78 d2002_71 (by decide) (by omega) (fun c71 => by exfalso; omega) (fun c71 => ?_)
    refine je_iconst (pc := 74) (v := 1) d2002_74 rfl ?_
    refine je_goto (pc := 75) 79 d2002_75 (by decide) ?_
    refine jn_icne (pc := 79) (a := 0) (b := 1) 92 d2002_79 (by decide) (by omega) (by omega) (fun c79 => ?_) (fun c79 => by exfalso; omega)
    exact KB (decide_eq_true (by omega))
  · skip
    refine je_aload0 (pc := 0) d2002_0 rfl ?_
    refine ju_callv (pc := 1) (as := []) d2002_1 jL_2_44 jM_Sr_clauseKind rfl (by decide) (sK4 H) rfl (by exact Nat.le_of_ble_eq_true rfl) (t_Sr_clauseKind d H A hN hb hT) (fun r1 h1 q1 => ?_)
    obtain ⟨rfl, e1⟩ := q1
    obtain rfl := e1.symm
    refine ju_eqi (v := nI 1) (by rw [hk]; rfl) ?_
    refine ju_istore2 (pc := 4) (lv' := [some _, some _, some _, none]) d2002_4 rfl rfl ?_
    refine je_iload2 (pc := 5) d2002_5 rfl ?_
    refine je_iconst (pc := 6) (v := 4) d2002_6 rfl ?_
    refine jn_icne (pc := 7) (a := 1) (b := 4) 22 d2002_7 (by decide) (by omega) (by omega) (fun c7 => ?_) (fun c7 => by exfalso; omega)
    refine je_iload2 (pc := 22) d2002_22 rfl ?_
    refine je_iconst (pc := 23) (v := 5) d2002_23 rfl ?_
    refine jn_icne (pc := 24) (a := 1) (b := 5) 43 d2002_24 (by decide) (by omega) (by omega) (fun c24 => ?_) (fun c24 => by exfalso; omega)
    refine je_iconst (pc := 43) (v := 0) d2002_43 rfl ?_
    refine ju_istore3 (pc := 44) (lv' := [some _, some _, some _, some _]) d2002_44 rfl rfl ?_
    refine je_iload2 (pc := 45) d2002_45 rfl ?_
    refine je_iconst (pc := 46) (v := -1) d2002_46 rfl ?_
    refine je_icne (pc := 47) 61 d2002_47 (by decide) (fun c47 => ?_) (fun c47 => absurd c47 (by decide))
    refine je_iload2 (pc := 61) d2002_61 rfl ?_
    refine jn_ifne (pc := 62) (a := 1) 69 d2002_62 (by decide) (by omega) (fun c62 => ?_) (fun c62 => by exfalso; omega)
    refine je_iconst (pc := 69) (v := 0) d2002_69 rfl ?_
    refine je_iload1 (pc := 70) d2002_70 rfl ?_
    refine jn_ifne (pc := 71) (a := (n)) 78 d2002_71 (by decide) (by omega) (fun c71 => ?_) (fun c71 => by exfalso; omega)
    refine je_iconst (pc := 78) (v := 0) d2002_78 rfl ?_
    refine jn_icne (pc := 79) (a := 0) (b := 0) 92 d2002_79 (by decide) (by omega) (by omega) (fun c79 => by exfalso; omega) (fun c79 => ?_)
    refine je_iload1 (pc := 82) d2002_82 rfl ?_
    refine je_bipush (pc := 83) (v := 40) d2002_83 rfl ?_
    refine jn_icge (pc := 85) (a := (n)) (b := 40) 92 d2002_85 (by decide) (by omega) (by omega) (fun c85 => ?_) (fun c85 => ?_)
    · exact KB (decide_eq_true (by omega))
    · refine je_iload3 (pc := 88) d2002_88 rfl ?_
      refine jn_ifeq (pc := 89) (a := 0) 100 d2002_89 (by decide) (by omega) (fun c89 => ?_) (fun c89 => by exfalso; omega)
      exact KG (fun z => by have := of_decide_eq_true z; omega)
set_option maxHeartbeats 4000000 in
theorem t_Sr_readClause_2 (d : Nat) {bc bs : Nat} {h : jx_H} {N a n q : Nat} {S : MS} (H : jx_St h) (X : txS h N (0, q)) (hn : n ≤ 40) (hN : N ≤ 400) (hT : bytT (h.2.1 3) N) (ha : 304 ≤ a) (SP : jx_Sp h a) (RA : h.2.2.2 4 1 = some a) (R : rS h.2.1 a S) (W : S.1.1 ≤ 10 ∧ S.1.2.1 ≤ 8 ∧ S.1.2.2.1 ≤ 8) (hk : kdS (h.2.1 3) N (skB (h.2.1 3) N q) = 2) : jx_Tr (d + 7) bc bs 2002 [.ref 4, .int (nI n)] h (fun r h' => r = none ∧ fC (stA a) h h' ∧ txS h' N (clS (h.2.1 3) N n q S).1 ∧ rS h'.2.1 a (clS (h.2.1 3) N n q S).2) := by
  refine jx_tr jM_Sr_readClause rfl rfl (lv := [some (.ref 4), some (.int (nI n)), none, none]) rfl ?_
  have q1 := X.1
  obtain ⟨hq, A⟩ := X.2.2.1 rfl
  have f0 : h.2.1 2 5 = 0 := X.2.1
  have hb : skB (h.2.1 3) N q ≤ N := sk_N hq
  have KB : flS n 2 S = true → jx_Ev (d + 7) bc bs 2002 92 [some (.ref 4), some (.int (nI n)), some (.int (nI 2)), some (.int 0)] [] h (fun r h' => r = none ∧ fC (stA a) h h' ∧ txS h' N (clS (h.2.1 3) N n q S).1 ∧ rS h'.2.1 a (clS (h.2.1 3) N n q S).2) := by
    intro fl
    refine je_aload0 (pc := 92) d2002_92 rfl ?_
    refine ju_getr (pc := 93) (b := 2) d2002_93 jF_2_18 rfl (sK4 H) (sR4_0 H) ?_
    refine je_iconst (pc := 96) (v := 4) d2002_96 rfl ?_
    refine ju_callv (pc := 97) (as := [_]) d2002_97 jL_2_55 jM_Tx_blame rfl (by decide) (sK2 H) rfl (by exact Nat.le_of_ble_eq_true rfl) (t_Tx_blame (d + 5) (b := skB (h.2.1 3) N q) (c := 4) H f0 A.2.1 (by decide) (by omega)) (fun r97 h97 q97 => ?_)
    obtain ⟨rfl, eb⟩ := q97
    obtain ⟨xb, fb⟩ := txS.bad (p := q) q1 eb (show skB (h.2.1 3) N q ≤ 400 by omega) (show 4 ≤ 4 by decide)
    have Hb := fb.St H
    have SPb := fb.Sp SP
    have Rb := fb.rr RA
    have nz : ¬ fltI (skB (h.2.1 3) N q) 4 = 0 := flt_nz (by omega) (by decide)
    have eTb : h97.2.1 3 = h.2.1 3 := fb.2 3 (by decide)
    refine je_aload0 (pc := 100) d2002_100 rfl ?_
    refine ju_getr (pc := 101) (b := 2) d2002_101 jF_2_18 rfl (sK4 Hb) (sR4_0 Hb) ?_
    refine ju_callv (pc := 104) (as := []) d2002_104 jL_2_58 jM_Tx_advance rfl (by decide) (sK2 Hb) rfl (by exact Nat.le_of_ble_eq_true rfl) (t_Tx_advance_n (d + 3) Hb xb.2.1 nz) (fun r104 h104 q104 => ?_)
    obtain ⟨rfl, e104⟩ := q104
    obtain rfl := e104.symm
    refine je_iload2 (pc := 107) d2002_107 rfl ?_
    refine je_table (pc := 108) 162 d2002_108 (by decide) (by decide) (off := 54) rfl (by decide) ?_
    refine je_aload0 (pc := 162) d2002_162 rfl ?_
    refine ju_callv (pc := 163) (as := []) d2002_163 jL_2_67 jM_Sr_readWarm rfl (by decide) (sK4 Hb) rfl (by exact Nat.le_of_ble_eq_true rfl) (t_Sr_readWarm d (N := N) (a := a) (s := (fltI (skB (h.2.1 3) N q) 4, q)) (S := S) Hb xb hq hN (by rw [eTb]; exact hT) ha SPb Rb (R.of (fun b b1 b2 => fb.2 b (by omega))) W) (fun r163 h163 q163 => ?_)
    obtain ⟨rfl, g1, g2, g3⟩ := q163
    rw [pt_f nz] at g2 g3
    refine je_goto (pc := 166) 190 d2002_166 (by decide) ?_
    refine je_ret (pc := 190) d2002_190 rfl ?_
    rw [cl_f (by rw [hk]; decide) (by rw [hk]; exact fl)]
    exact ⟨rfl, fb.sa.tr g1, g2, g3⟩
  have KG : ¬ flS n 2 S = true → jx_Ev (d + 7) bc bs 2002 100 [some (.ref 4), some (.int (nI n)), some (.int (nI 2)), some (.int 0)] [] h (fun r h' => r = none ∧ fC (stA a) h h' ∧ txS h' N (clS (h.2.1 3) N n q S).1 ∧ rS h'.2.1 a (clS (h.2.1 3) N n q S).2) := by
    intro fl
    refine je_aload0 (pc := 100) d2002_100 rfl ?_
    refine ju_getr (pc := 101) (b := 2) d2002_101 jF_2_18 rfl (sK4 H) (sR4_0 H) ?_
    refine ju_callv (pc := 104) (as := []) d2002_104 jL_2_58 jM_Tx_advance rfl (by decide) (sK2 H) rfl (by exact Nat.le_of_ble_eq_true rfl) (t_Tx_advance (d + 3) (N := N) (u := tkE (h.2.1 3) N (skB (h.2.1 3) N q)) H q1 A.2.2.1 hN (tk_N hb).2 f0) (fun r104 h104 q104 => ?_)
    obtain ⟨rfl, fa, j1, A2⟩ := q104
    have Ha := fa.St H
    have SPa := fa.Sp SP
    have Ra := fa.rr RA
    have eTa : h104.2.1 3 = h.2.1 3 := fa.2 3 (by decide)
    have xa : txS h104 N (0, tkE (h.2.1 3) N (skB (h.2.1 3) N q)) := ⟨(j1 1 (by decide) (by decide) (by decide)).trans q1, (j1 5 (by decide) (by decide) (by decide)).trans f0, fun _ => ⟨(tk_N hb).2, by rw [eTa]; exact A2⟩, fun z => absurd rfl z⟩
    refine je_iload2 (pc := 107) d2002_107 rfl ?_
    refine je_table (pc := 108) 162 d2002_108 (by decide) (by decide) (off := 54) rfl (by decide) ?_
    refine je_aload0 (pc := 162) d2002_162 rfl ?_
    refine ju_callv (pc := 163) (as := []) d2002_163 jL_2_67 jM_Sr_readWarm rfl (by decide) (sK4 Ha) rfl (by exact Nat.le_of_ble_eq_true rfl) (t_Sr_readWarm d (N := N) (a := a) (s := (0, tkE (h.2.1 3) N (skB (h.2.1 3) N q))) (S := S) Ha xa (tk_N hb).2 hN (by rw [eTa]; exact hT) ha SPa Ra (R.of (fun b b1 b2 => fa.2 b (by omega))) W) (fun r163 h163 q163 => ?_)
    obtain ⟨rfl, g1, g2, g3⟩ := q163
    rw [eTa] at g2 g3
    refine je_goto (pc := 166) 190 d2002_166 (by decide) ?_
    refine je_ret (pc := 190) d2002_190 rfl ?_
    rw [cl_o (by rw [hk]; decide) (by rw [hk]; exact fl), hk]
    exact ⟨rfl, fa.sa.tr g1, g2, g3⟩
  by_cases n0 : n = 0
  · skip
    refine je_aload0 (pc := 0) d2002_0 rfl ?_
    refine ju_callv (pc := 1) (as := []) d2002_1 jL_2_44 jM_Sr_clauseKind rfl (by decide) (sK4 H) rfl (by exact Nat.le_of_ble_eq_true rfl) (t_Sr_clauseKind d H A hN hb hT) (fun r1 h1 q1 => ?_)
    obtain ⟨rfl, e1⟩ := q1
    obtain rfl := e1.symm
    refine ju_eqi (v := nI 2) (by rw [hk]; rfl) ?_
    refine ju_istore2 (pc := 4) (lv' := [some _, some _, some _, none]) d2002_4 rfl rfl ?_
    refine je_iload2 (pc := 5) d2002_5 rfl ?_
    refine je_iconst (pc := 6) (v := 4) d2002_6 rfl ?_
    refine jn_icne (pc := 7) (a := 2) (b := 4) 22 d2002_7 (by decide) (by omega) (by omega) (fun c7 => ?_) (fun c7 => by exfalso; omega)
    refine je_iload2 (pc := 22) d2002_22 rfl ?_
    refine je_iconst (pc := 23) (v := 5) d2002_23 rfl ?_
    refine jn_icne (pc := 24) (a := 2) (b := 5) 43 d2002_24 (by decide) (by omega) (by omega) (fun c24 => ?_) (fun c24 => by exfalso; omega)
    refine je_iconst (pc := 43) (v := 0) d2002_43 rfl ?_
    refine ju_istore3 (pc := 44) (lv' := [some _, some _, some _, some _]) d2002_44 rfl rfl ?_
    refine je_iload2 (pc := 45) d2002_45 rfl ?_
    refine je_iconst (pc := 46) (v := -1) d2002_46 rfl ?_
    refine je_icne (pc := 47) 61 d2002_47 (by decide) (fun c47 => ?_) (fun c47 => absurd c47 (by decide))
    refine je_iload2 (pc := 61) d2002_61 rfl ?_
    refine jn_ifne (pc := 62) (a := 2) 69 d2002_62 (by decide) (by omega) (fun c62 => ?_) (fun c62 => by exfalso; omega)
    refine je_iconst (pc := 69) (v := 0) d2002_69 rfl ?_
    refine je_iload1 (pc := 70) d2002_70 rfl ?_
    refine jn_ifne (pc := 71) (a := (n)) 78 d2002_71 (by decide) (by omega) (fun c71 => by exfalso; omega) (fun c71 => ?_)
    refine je_iconst (pc := 74) (v := 1) d2002_74 rfl ?_
    refine je_goto (pc := 75) 79 d2002_75 (by decide) ?_
    refine jn_icne (pc := 79) (a := 0) (b := 1) 92 d2002_79 (by decide) (by omega) (by omega) (fun c79 => ?_) (fun c79 => by exfalso; omega)
    exact KB (decide_eq_true (by omega))
  · skip
    refine je_aload0 (pc := 0) d2002_0 rfl ?_
    refine ju_callv (pc := 1) (as := []) d2002_1 jL_2_44 jM_Sr_clauseKind rfl (by decide) (sK4 H) rfl (by exact Nat.le_of_ble_eq_true rfl) (t_Sr_clauseKind d H A hN hb hT) (fun r1 h1 q1 => ?_)
    obtain ⟨rfl, e1⟩ := q1
    obtain rfl := e1.symm
    refine ju_eqi (v := nI 2) (by rw [hk]; rfl) ?_
    refine ju_istore2 (pc := 4) (lv' := [some _, some _, some _, none]) d2002_4 rfl rfl ?_
    refine je_iload2 (pc := 5) d2002_5 rfl ?_
    refine je_iconst (pc := 6) (v := 4) d2002_6 rfl ?_
    refine jn_icne (pc := 7) (a := 2) (b := 4) 22 d2002_7 (by decide) (by omega) (by omega) (fun c7 => ?_) (fun c7 => by exfalso; omega)
    refine je_iload2 (pc := 22) d2002_22 rfl ?_
    refine je_iconst (pc := 23) (v := 5) d2002_23 rfl ?_
    refine jn_icne (pc := 24) (a := 2) (b := 5) 43 d2002_24 (by decide) (by omega) (by omega) (fun c24 => ?_) (fun c24 => by exfalso; omega)
    refine je_iconst (pc := 43) (v := 0) d2002_43 rfl ?_
    refine ju_istore3 (pc := 44) (lv' := [some _, some _, some _, some _]) d2002_44 rfl rfl ?_
    refine je_iload2 (pc := 45) d2002_45 rfl ?_
    refine je_iconst (pc := 46) (v := -1) d2002_46 rfl ?_
    refine je_icne (pc := 47) 61 d2002_47 (by decide) (fun c47 => ?_) (fun c47 => absurd c47 (by decide))
    refine je_iload2 (pc := 61) d2002_61 rfl ?_
    refine jn_ifne (pc := 62) (a := 2) 69 d2002_62 (by decide) (by omega) (fun c62 => ?_) (fun c62 => by exfalso; omega)
    refine je_iconst (pc := 69) (v := 0) d2002_69 rfl ?_
    refine je_iload1 (pc := 70) d2002_70 rfl ?_
    refine jn_ifne (pc := 71) (a := (n)) 78 d2002_71 (by decide) (by omega) (fun c71 => ?_) (fun c71 => by exfalso; omega)
    refine je_iconst (pc := 78) (v := 0) d2002_78 rfl ?_
    refine jn_icne (pc := 79) (a := 0) (b := 0) 92 d2002_79 (by decide) (by omega) (by omega) (fun c79 => by exfalso; omega) (fun c79 => ?_)
    refine je_iload1 (pc := 82) d2002_82 rfl ?_
    refine je_bipush (pc := 83) (v := 40) d2002_83 rfl ?_
    refine jn_icge (pc := 85) (a := (n)) (b := 40) 92 d2002_85 (by decide) (by omega) (by omega) (fun c85 => ?_) (fun c85 => ?_)
    · exact KB (decide_eq_true (by omega))
    · refine je_iload3 (pc := 88) d2002_88 rfl ?_
      refine jn_ifeq (pc := 89) (a := 0) 100 d2002_89 (by decide) (by omega) (fun c89 => ?_) (fun c89 => by exfalso; omega)
      exact KG (fun z => by have := of_decide_eq_true z; omega)
set_option maxHeartbeats 4000000 in
theorem t_Sr_readClause_3 (d : Nat) {bc bs : Nat} {h : jx_H} {N a n q : Nat} {S : MS} (H : jx_St h) (X : txS h N (0, q)) (hn : n ≤ 40) (hN : N ≤ 400) (hT : bytT (h.2.1 3) N) (ha : 304 ≤ a) (SP : jx_Sp h a) (RA : h.2.2.2 4 1 = some a) (R : rS h.2.1 a S) (W : S.1.1 ≤ 10 ∧ S.1.2.1 ≤ 8 ∧ S.1.2.2.1 ≤ 8) (hk : kdS (h.2.1 3) N (skB (h.2.1 3) N q) = 3) : jx_Tr (d + 7) bc bs 2002 [.ref 4, .int (nI n)] h (fun r h' => r = none ∧ fC (stA a) h h' ∧ txS h' N (clS (h.2.1 3) N n q S).1 ∧ rS h'.2.1 a (clS (h.2.1 3) N n q S).2) := by
  refine jx_tr jM_Sr_readClause rfl rfl (lv := [some (.ref 4), some (.int (nI n)), none, none]) rfl ?_
  have q1 := X.1
  obtain ⟨hq, A⟩ := X.2.2.1 rfl
  have f0 : h.2.1 2 5 = 0 := X.2.1
  have hb : skB (h.2.1 3) N q ≤ N := sk_N hq
  have KB : flS n 3 S = true → jx_Ev (d + 7) bc bs 2002 92 [some (.ref 4), some (.int (nI n)), some (.int (nI 3)), some (.int 0)] [] h (fun r h' => r = none ∧ fC (stA a) h h' ∧ txS h' N (clS (h.2.1 3) N n q S).1 ∧ rS h'.2.1 a (clS (h.2.1 3) N n q S).2) := by
    intro fl
    refine je_aload0 (pc := 92) d2002_92 rfl ?_
    refine ju_getr (pc := 93) (b := 2) d2002_93 jF_2_18 rfl (sK4 H) (sR4_0 H) ?_
    refine je_iconst (pc := 96) (v := 4) d2002_96 rfl ?_
    refine ju_callv (pc := 97) (as := [_]) d2002_97 jL_2_55 jM_Tx_blame rfl (by decide) (sK2 H) rfl (by exact Nat.le_of_ble_eq_true rfl) (t_Tx_blame (d + 5) (b := skB (h.2.1 3) N q) (c := 4) H f0 A.2.1 (by decide) (by omega)) (fun r97 h97 q97 => ?_)
    obtain ⟨rfl, eb⟩ := q97
    obtain ⟨xb, fb⟩ := txS.bad (p := q) q1 eb (show skB (h.2.1 3) N q ≤ 400 by omega) (show 4 ≤ 4 by decide)
    have Hb := fb.St H
    have SPb := fb.Sp SP
    have Rb := fb.rr RA
    have nz : ¬ fltI (skB (h.2.1 3) N q) 4 = 0 := flt_nz (by omega) (by decide)
    have eTb : h97.2.1 3 = h.2.1 3 := fb.2 3 (by decide)
    refine je_aload0 (pc := 100) d2002_100 rfl ?_
    refine ju_getr (pc := 101) (b := 2) d2002_101 jF_2_18 rfl (sK4 Hb) (sR4_0 Hb) ?_
    refine ju_callv (pc := 104) (as := []) d2002_104 jL_2_58 jM_Tx_advance rfl (by decide) (sK2 Hb) rfl (by exact Nat.le_of_ble_eq_true rfl) (t_Tx_advance_n (d + 3) Hb xb.2.1 nz) (fun r104 h104 q104 => ?_)
    obtain ⟨rfl, e104⟩ := q104
    obtain rfl := e104.symm
    refine je_iload2 (pc := 107) d2002_107 rfl ?_
    refine je_table (pc := 108) 169 d2002_108 (by decide) (by decide) (off := 61) rfl (by decide) ?_
    refine je_aload0 (pc := 169) d2002_169 rfl ?_
    refine ju_callv (pc := 170) (as := []) d2002_170 jL_2_70 jM_Sr_readBaked rfl (by decide) (sK4 Hb) rfl (by exact Nat.le_of_ble_eq_true rfl) (t_Sr_readBaked d (N := N) (a := a) (s := (fltI (skB (h.2.1 3) N q) 4, q)) (S := S) Hb xb hq hN (by rw [eTb]; exact hT) ha SPb Rb (R.of (fun b b1 b2 => fb.2 b (by omega))) W) (fun r170 h170 q170 => ?_)
    obtain ⟨rfl, g1, g2, g3⟩ := q170
    rw [pt_f nz] at g2 g3
    refine je_goto (pc := 173) 190 d2002_173 (by decide) ?_
    refine je_ret (pc := 190) d2002_190 rfl ?_
    rw [cl_f (by rw [hk]; decide) (by rw [hk]; exact fl)]
    exact ⟨rfl, fb.sa.tr g1, g2, g3⟩
  have KG : ¬ flS n 3 S = true → jx_Ev (d + 7) bc bs 2002 100 [some (.ref 4), some (.int (nI n)), some (.int (nI 3)), some (.int 0)] [] h (fun r h' => r = none ∧ fC (stA a) h h' ∧ txS h' N (clS (h.2.1 3) N n q S).1 ∧ rS h'.2.1 a (clS (h.2.1 3) N n q S).2) := by
    intro fl
    refine je_aload0 (pc := 100) d2002_100 rfl ?_
    refine ju_getr (pc := 101) (b := 2) d2002_101 jF_2_18 rfl (sK4 H) (sR4_0 H) ?_
    refine ju_callv (pc := 104) (as := []) d2002_104 jL_2_58 jM_Tx_advance rfl (by decide) (sK2 H) rfl (by exact Nat.le_of_ble_eq_true rfl) (t_Tx_advance (d + 3) (N := N) (u := tkE (h.2.1 3) N (skB (h.2.1 3) N q)) H q1 A.2.2.1 hN (tk_N hb).2 f0) (fun r104 h104 q104 => ?_)
    obtain ⟨rfl, fa, j1, A2⟩ := q104
    have Ha := fa.St H
    have SPa := fa.Sp SP
    have Ra := fa.rr RA
    have eTa : h104.2.1 3 = h.2.1 3 := fa.2 3 (by decide)
    have xa : txS h104 N (0, tkE (h.2.1 3) N (skB (h.2.1 3) N q)) := ⟨(j1 1 (by decide) (by decide) (by decide)).trans q1, (j1 5 (by decide) (by decide) (by decide)).trans f0, fun _ => ⟨(tk_N hb).2, by rw [eTa]; exact A2⟩, fun z => absurd rfl z⟩
    refine je_iload2 (pc := 107) d2002_107 rfl ?_
    refine je_table (pc := 108) 169 d2002_108 (by decide) (by decide) (off := 61) rfl (by decide) ?_
    refine je_aload0 (pc := 169) d2002_169 rfl ?_
    refine ju_callv (pc := 170) (as := []) d2002_170 jL_2_70 jM_Sr_readBaked rfl (by decide) (sK4 Ha) rfl (by exact Nat.le_of_ble_eq_true rfl) (t_Sr_readBaked d (N := N) (a := a) (s := (0, tkE (h.2.1 3) N (skB (h.2.1 3) N q))) (S := S) Ha xa (tk_N hb).2 hN (by rw [eTa]; exact hT) ha SPa Ra (R.of (fun b b1 b2 => fa.2 b (by omega))) W) (fun r170 h170 q170 => ?_)
    obtain ⟨rfl, g1, g2, g3⟩ := q170
    rw [eTa] at g2 g3
    refine je_goto (pc := 173) 190 d2002_173 (by decide) ?_
    refine je_ret (pc := 190) d2002_190 rfl ?_
    rw [cl_o (by rw [hk]; decide) (by rw [hk]; exact fl), hk]
    exact ⟨rfl, fa.sa.tr g1, g2, g3⟩
  by_cases n0 : n = 0
  · skip
    refine je_aload0 (pc := 0) d2002_0 rfl ?_
    refine ju_callv (pc := 1) (as := []) d2002_1 jL_2_44 jM_Sr_clauseKind rfl (by decide) (sK4 H) rfl (by exact Nat.le_of_ble_eq_true rfl) (t_Sr_clauseKind d H A hN hb hT) (fun r1 h1 q1 => ?_)
    obtain ⟨rfl, e1⟩ := q1
    obtain rfl := e1.symm
    refine ju_eqi (v := nI 3) (by rw [hk]; rfl) ?_
    refine ju_istore2 (pc := 4) (lv' := [some _, some _, some _, none]) d2002_4 rfl rfl ?_
    refine je_iload2 (pc := 5) d2002_5 rfl ?_
    refine je_iconst (pc := 6) (v := 4) d2002_6 rfl ?_
    refine jn_icne (pc := 7) (a := 3) (b := 4) 22 d2002_7 (by decide) (by omega) (by omega) (fun c7 => ?_) (fun c7 => by exfalso; omega)
    refine je_iload2 (pc := 22) d2002_22 rfl ?_
    refine je_iconst (pc := 23) (v := 5) d2002_23 rfl ?_
    refine jn_icne (pc := 24) (a := 3) (b := 5) 43 d2002_24 (by decide) (by omega) (by omega) (fun c24 => ?_) (fun c24 => by exfalso; omega)
    refine je_iconst (pc := 43) (v := 0) d2002_43 rfl ?_
    refine ju_istore3 (pc := 44) (lv' := [some _, some _, some _, some _]) d2002_44 rfl rfl ?_
    refine je_iload2 (pc := 45) d2002_45 rfl ?_
    refine je_iconst (pc := 46) (v := -1) d2002_46 rfl ?_
    refine je_icne (pc := 47) 61 d2002_47 (by decide) (fun c47 => ?_) (fun c47 => absurd c47 (by decide))
    refine je_iload2 (pc := 61) d2002_61 rfl ?_
    refine jn_ifne (pc := 62) (a := 3) 69 d2002_62 (by decide) (by omega) (fun c62 => ?_) (fun c62 => by exfalso; omega)
    refine je_iconst (pc := 69) (v := 0) d2002_69 rfl ?_
    refine je_iload1 (pc := 70) d2002_70 rfl ?_
    refine jn_ifne (pc := 71) (a := (n)) 78 d2002_71 (by decide) (by omega) (fun c71 => by exfalso; omega) (fun c71 => ?_)
    refine je_iconst (pc := 74) (v := 1) d2002_74 rfl ?_
    refine je_goto (pc := 75) 79 d2002_75 (by decide) ?_
    refine jn_icne (pc := 79) (a := 0) (b := 1) 92 d2002_79 (by decide) (by omega) (by omega) (fun c79 => ?_) (fun c79 => by exfalso; omega)
    exact KB (decide_eq_true (by omega))
  · skip
    refine je_aload0 (pc := 0) d2002_0 rfl ?_
    refine ju_callv (pc := 1) (as := []) d2002_1 jL_2_44 jM_Sr_clauseKind rfl (by decide) (sK4 H) rfl (by exact Nat.le_of_ble_eq_true rfl) (t_Sr_clauseKind d H A hN hb hT) (fun r1 h1 q1 => ?_)
    obtain ⟨rfl, e1⟩ := q1
    obtain rfl := e1.symm
    refine ju_eqi (v := nI 3) (by rw [hk]; rfl) ?_
    refine ju_istore2 (pc := 4) (lv' := [some _, some _, some _, none]) d2002_4 rfl rfl ?_
    refine je_iload2 (pc := 5) d2002_5 rfl ?_
    refine je_iconst (pc := 6) (v := 4) d2002_6 rfl ?_
    refine jn_icne (pc := 7) (a := 3) (b := 4) 22 d2002_7 (by decide) (by omega) (by omega) (fun c7 => ?_) (fun c7 => by exfalso; omega)
    refine je_iload2 (pc := 22) d2002_22 rfl ?_
    refine je_iconst (pc := 23) (v := 5) d2002_23 rfl ?_
    refine jn_icne (pc := 24) (a := 3) (b := 5) 43 d2002_24 (by decide) (by omega) (by omega) (fun c24 => ?_) (fun c24 => by exfalso; omega)
    refine je_iconst (pc := 43) (v := 0) d2002_43 rfl ?_
    refine ju_istore3 (pc := 44) (lv' := [some _, some _, some _, some _]) d2002_44 rfl rfl ?_
    refine je_iload2 (pc := 45) d2002_45 rfl ?_
    refine je_iconst (pc := 46) (v := -1) d2002_46 rfl ?_
    refine je_icne (pc := 47) 61 d2002_47 (by decide) (fun c47 => ?_) (fun c47 => absurd c47 (by decide))
    refine je_iload2 (pc := 61) d2002_61 rfl ?_
    refine jn_ifne (pc := 62) (a := 3) 69 d2002_62 (by decide) (by omega) (fun c62 => ?_) (fun c62 => by exfalso; omega)
    refine je_iconst (pc := 69) (v := 0) d2002_69 rfl ?_
    refine je_iload1 (pc := 70) d2002_70 rfl ?_
    refine jn_ifne (pc := 71) (a := (n)) 78 d2002_71 (by decide) (by omega) (fun c71 => ?_) (fun c71 => by exfalso; omega)
    refine je_iconst (pc := 78) (v := 0) d2002_78 rfl ?_
    refine jn_icne (pc := 79) (a := 0) (b := 0) 92 d2002_79 (by decide) (by omega) (by omega) (fun c79 => by exfalso; omega) (fun c79 => ?_)
    refine je_iload1 (pc := 82) d2002_82 rfl ?_
    refine je_bipush (pc := 83) (v := 40) d2002_83 rfl ?_
    refine jn_icge (pc := 85) (a := (n)) (b := 40) 92 d2002_85 (by decide) (by omega) (by omega) (fun c85 => ?_) (fun c85 => ?_)
    · exact KB (decide_eq_true (by omega))
    · refine je_iload3 (pc := 88) d2002_88 rfl ?_
      refine jn_ifeq (pc := 89) (a := 0) 100 d2002_89 (by decide) (by omega) (fun c89 => ?_) (fun c89 => by exfalso; omega)
      exact KG (fun z => by have := of_decide_eq_true z; omega)
set_option maxHeartbeats 4000000 in
theorem t_Sr_readClause_4 (d : Nat) {bc bs : Nat} {h : jx_H} {N a n q : Nat} {S : MS} (H : jx_St h) (X : txS h N (0, q)) (hn : n ≤ 40) (hN : N ≤ 400) (hT : bytT (h.2.1 3) N) (ha : 304 ≤ a) (SP : jx_Sp h a) (RA : h.2.2.2 4 1 = some a) (R : rS h.2.1 a S) (W : S.1.1 ≤ 10 ∧ S.1.2.1 ≤ 8 ∧ S.1.2.2.1 ≤ 8) (hk : kdS (h.2.1 3) N (skB (h.2.1 3) N q) = 4) : jx_Tr (d + 7) bc bs 2002 [.ref 4, .int (nI n)] h (fun r h' => r = none ∧ fC (stA a) h h' ∧ txS h' N (clS (h.2.1 3) N n q S).1 ∧ rS h'.2.1 a (clS (h.2.1 3) N n q S).2) := by
  refine jx_tr jM_Sr_readClause rfl rfl (lv := [some (.ref 4), some (.int (nI n)), none, none]) rfl ?_
  have q1 := X.1
  obtain ⟨hq, A⟩ := X.2.2.1 rfl
  have f0 : h.2.1 2 5 = 0 := X.2.1
  have hb : skB (h.2.1 3) N q ≤ N := sk_N hq
  have KB : flS n 4 S = true → jx_Ev (d + 7) bc bs 2002 92 [some (.ref 4), some (.int (nI n)), some (.int (nI 4)), some (.int (b2 (S.1.2.1 = 8)))] [] h (fun r h' => r = none ∧ fC (stA a) h h' ∧ txS h' N (clS (h.2.1 3) N n q S).1 ∧ rS h'.2.1 a (clS (h.2.1 3) N n q S).2) := by
    intro fl
    refine je_aload0 (pc := 92) d2002_92 rfl ?_
    refine ju_getr (pc := 93) (b := 2) d2002_93 jF_2_18 rfl (sK4 H) (sR4_0 H) ?_
    refine je_iconst (pc := 96) (v := 4) d2002_96 rfl ?_
    refine ju_callv (pc := 97) (as := [_]) d2002_97 jL_2_55 jM_Tx_blame rfl (by decide) (sK2 H) rfl (by exact Nat.le_of_ble_eq_true rfl) (t_Tx_blame (d + 5) (b := skB (h.2.1 3) N q) (c := 4) H f0 A.2.1 (by decide) (by omega)) (fun r97 h97 q97 => ?_)
    obtain ⟨rfl, eb⟩ := q97
    obtain ⟨xb, fb⟩ := txS.bad (p := q) q1 eb (show skB (h.2.1 3) N q ≤ 400 by omega) (show 4 ≤ 4 by decide)
    have Hb := fb.St H
    have SPb := fb.Sp SP
    have Rb := fb.rr RA
    have nz : ¬ fltI (skB (h.2.1 3) N q) 4 = 0 := flt_nz (by omega) (by decide)
    have eTb : h97.2.1 3 = h.2.1 3 := fb.2 3 (by decide)
    refine je_aload0 (pc := 100) d2002_100 rfl ?_
    refine ju_getr (pc := 101) (b := 2) d2002_101 jF_2_18 rfl (sK4 Hb) (sR4_0 Hb) ?_
    refine ju_callv (pc := 104) (as := []) d2002_104 jL_2_58 jM_Tx_advance rfl (by decide) (sK2 Hb) rfl (by exact Nat.le_of_ble_eq_true rfl) (t_Tx_advance_n (d + 3) Hb xb.2.1 nz) (fun r104 h104 q104 => ?_)
    obtain ⟨rfl, e104⟩ := q104
    obtain rfl := e104.symm
    refine je_iload2 (pc := 107) d2002_107 rfl ?_
    refine je_table (pc := 108) 176 d2002_108 (by decide) (by decide) (off := 68) rfl (by decide) ?_
    refine je_aload0 (pc := 176) d2002_176 rfl ?_
    refine ju_callv (pc := 177) (as := []) d2002_177 jL_2_73 jM_Sr_readVillage rfl (by decide) (sK4 Hb) rfl (by exact Nat.le_of_ble_eq_true rfl) (t_Sr_readVillage d (N := N) (a := a) (s := (fltI (skB (h.2.1 3) N q) 4, q)) (S := S) Hb xb hq hN (by rw [eTb]; exact hT) ha SPb Rb (R.of (fun b b1 b2 => fb.2 b (by omega))) W (fun z => absurd z nz)) (fun r177 h177 q177 => ?_)
    obtain ⟨rfl, g1, g2, g3⟩ := q177
    rw [pt_f nz] at g2 g3
    refine je_goto (pc := 180) 190 d2002_180 (by decide) ?_
    refine je_ret (pc := 190) d2002_190 rfl ?_
    rw [cl_f (by rw [hk]; decide) (by rw [hk]; exact fl)]
    exact ⟨rfl, fb.sa.tr g1, g2, g3⟩
  have KG : ¬ flS n 4 S = true → jx_Ev (d + 7) bc bs 2002 100 [some (.ref 4), some (.int (nI n)), some (.int (nI 4)), some (.int (b2 (S.1.2.1 = 8)))] [] h (fun r h' => r = none ∧ fC (stA a) h h' ∧ txS h' N (clS (h.2.1 3) N n q S).1 ∧ rS h'.2.1 a (clS (h.2.1 3) N n q S).2) := by
    intro fl
    refine je_aload0 (pc := 100) d2002_100 rfl ?_
    refine ju_getr (pc := 101) (b := 2) d2002_101 jF_2_18 rfl (sK4 H) (sR4_0 H) ?_
    refine ju_callv (pc := 104) (as := []) d2002_104 jL_2_58 jM_Tx_advance rfl (by decide) (sK2 H) rfl (by exact Nat.le_of_ble_eq_true rfl) (t_Tx_advance (d + 3) (N := N) (u := tkE (h.2.1 3) N (skB (h.2.1 3) N q)) H q1 A.2.2.1 hN (tk_N hb).2 f0) (fun r104 h104 q104 => ?_)
    obtain ⟨rfl, fa, j1, A2⟩ := q104
    have Ha := fa.St H
    have SPa := fa.Sp SP
    have Ra := fa.rr RA
    have eTa : h104.2.1 3 = h.2.1 3 := fa.2 3 (by decide)
    have xa : txS h104 N (0, tkE (h.2.1 3) N (skB (h.2.1 3) N q)) := ⟨(j1 1 (by decide) (by decide) (by decide)).trans q1, (j1 5 (by decide) (by decide) (by decide)).trans f0, fun _ => ⟨(tk_N hb).2, by rw [eTa]; exact A2⟩, fun z => absurd rfl z⟩
    refine je_iload2 (pc := 107) d2002_107 rfl ?_
    refine je_table (pc := 108) 176 d2002_108 (by decide) (by decide) (off := 68) rfl (by decide) ?_
    refine je_aload0 (pc := 176) d2002_176 rfl ?_
    refine ju_callv (pc := 177) (as := []) d2002_177 jL_2_73 jM_Sr_readVillage rfl (by decide) (sK4 Ha) rfl (by exact Nat.le_of_ble_eq_true rfl) (t_Sr_readVillage d (N := N) (a := a) (s := (0, tkE (h.2.1 3) N (skB (h.2.1 3) N q))) (S := S) Ha xa (tk_N hb).2 hN (by rw [eTa]; exact hT) ha SPa Ra (R.of (fun b b1 b2 => fa.2 b (by omega))) W (fun _ => by have := W.2.1; have := mt decide_eq_true fl; omega)) (fun r177 h177 q177 => ?_)
    obtain ⟨rfl, g1, g2, g3⟩ := q177
    rw [eTa] at g2 g3
    refine je_goto (pc := 180) 190 d2002_180 (by decide) ?_
    refine je_ret (pc := 190) d2002_190 rfl ?_
    rw [cl_o (by rw [hk]; decide) (by rw [hk]; exact fl), hk]
    exact ⟨rfl, fa.sa.tr g1, g2, g3⟩
  by_cases n0 : n = 0
  · skip
    refine je_aload0 (pc := 0) d2002_0 rfl ?_
    refine ju_callv (pc := 1) (as := []) d2002_1 jL_2_44 jM_Sr_clauseKind rfl (by decide) (sK4 H) rfl (by exact Nat.le_of_ble_eq_true rfl) (t_Sr_clauseKind d H A hN hb hT) (fun r1 h1 q1 => ?_)
    obtain ⟨rfl, e1⟩ := q1
    obtain rfl := e1.symm
    refine ju_eqi (v := nI 4) (by rw [hk]; rfl) ?_
    refine ju_istore2 (pc := 4) (lv' := [some _, some _, some _, none]) d2002_4 rfl rfl ?_
    refine je_iload2 (pc := 5) d2002_5 rfl ?_
    refine je_iconst (pc := 6) (v := 4) d2002_6 rfl ?_
    refine jn_icne (pc := 7) (a := 4) (b := 4) 22 d2002_7 (by decide) (by omega) (by omega) (fun c7 => by exfalso; omega) (fun c7 => ?_)
    refine je_aload0 (pc := 10) d2002_10 rfl ?_
    refine ju_getr (pc := 11) (b := a) d2002_11 jF_2_12 rfl (sK4 H) RA ?_
    refine ju_geti (pc := 14) d2002_14 jF_2_48 rfl SP.1.1 ?_
    refine ju_eqi (v := nI S.1.2.1) R.1.2.2.1 ?_
    refine je_bipush (pc := 17) (v := 8) d2002_17 rfl ?_
    refine ju_tern2 (pc := 19) (V := (b2 (S.1.2.1 = 8))) 44 ?_ (fun jn19 => ?_)
    · refine ju_istore3 (pc := 44) (lv' := [some _, some _, some _, some _]) d2002_44 rfl rfl ?_
      refine je_iload2 (pc := 45) d2002_45 rfl ?_
      refine je_iconst (pc := 46) (v := -1) d2002_46 rfl ?_
      refine je_icne (pc := 47) 61 d2002_47 (by decide) (fun c47 => ?_) (fun c47 => absurd c47 (by decide))
      refine je_iload2 (pc := 61) d2002_61 rfl ?_
      refine jn_ifne (pc := 62) (a := 4) 69 d2002_62 (by decide) (by omega) (fun c62 => ?_) (fun c62 => by exfalso; omega)
      refine je_iconst (pc := 69) (v := 0) d2002_69 rfl ?_
      refine je_iload1 (pc := 70) d2002_70 rfl ?_
      refine jn_ifne (pc := 71) (a := (n)) 78 d2002_71 (by decide) (by omega) (fun c71 => by exfalso; omega) (fun c71 => ?_)
      refine je_iconst (pc := 74) (v := 1) d2002_74 rfl ?_
      refine je_goto (pc := 75) 79 d2002_75 (by decide) ?_
      refine jn_icne (pc := 79) (a := 0) (b := 1) 92 d2002_79 (by decide) (by omega) (by omega) (fun c79 => ?_) (fun c79 => by exfalso; omega)
      exact KB (decide_eq_true (by omega))
    · refine jn_icge (pc := 19) (a := (S.1.2.1)) (b := 8) 39 d2002_19 (by decide) (by omega) (by omega) (fun c19 => ?_) (fun c19 => ?_)
      · refine je_iconst (pc := 39) (v := 1) d2002_39 rfl ?_
        refine je_goto (pc := 40) 44 d2002_40 (by decide) ?_
        refine ju_eqi (v := (b2 (S.1.2.1 = 8))) (b2_t (by omega)).symm ?_
        exact jn19
      · refine je_iload2 (pc := 22) d2002_22 rfl ?_
        refine je_iconst (pc := 23) (v := 5) d2002_23 rfl ?_
        refine jn_icne (pc := 24) (a := 4) (b := 5) 43 d2002_24 (by decide) (by omega) (by omega) (fun c24 => ?_) (fun c24 => by exfalso; omega)
        refine je_iconst (pc := 43) (v := 0) d2002_43 rfl ?_
        refine ju_eqi (v := (b2 (S.1.2.1 = 8))) (b2_f (by omega)).symm ?_
        exact jn19
  · skip
    refine je_aload0 (pc := 0) d2002_0 rfl ?_
    refine ju_callv (pc := 1) (as := []) d2002_1 jL_2_44 jM_Sr_clauseKind rfl (by decide) (sK4 H) rfl (by exact Nat.le_of_ble_eq_true rfl) (t_Sr_clauseKind d H A hN hb hT) (fun r1 h1 q1 => ?_)
    obtain ⟨rfl, e1⟩ := q1
    obtain rfl := e1.symm
    refine ju_eqi (v := nI 4) (by rw [hk]; rfl) ?_
    refine ju_istore2 (pc := 4) (lv' := [some _, some _, some _, none]) d2002_4 rfl rfl ?_
    refine je_iload2 (pc := 5) d2002_5 rfl ?_
    refine je_iconst (pc := 6) (v := 4) d2002_6 rfl ?_
    refine jn_icne (pc := 7) (a := 4) (b := 4) 22 d2002_7 (by decide) (by omega) (by omega) (fun c7 => by exfalso; omega) (fun c7 => ?_)
    refine je_aload0 (pc := 10) d2002_10 rfl ?_
    refine ju_getr (pc := 11) (b := a) d2002_11 jF_2_12 rfl (sK4 H) RA ?_
    refine ju_geti (pc := 14) d2002_14 jF_2_48 rfl SP.1.1 ?_
    refine ju_eqi (v := nI S.1.2.1) R.1.2.2.1 ?_
    refine je_bipush (pc := 17) (v := 8) d2002_17 rfl ?_
    refine ju_tern2 (pc := 19) (V := (b2 (S.1.2.1 = 8))) 44 ?_ (fun jn19 => ?_)
    · refine ju_istore3 (pc := 44) (lv' := [some _, some _, some _, some _]) d2002_44 rfl rfl ?_
      refine je_iload2 (pc := 45) d2002_45 rfl ?_
      refine je_iconst (pc := 46) (v := -1) d2002_46 rfl ?_
      refine je_icne (pc := 47) 61 d2002_47 (by decide) (fun c47 => ?_) (fun c47 => absurd c47 (by decide))
      refine je_iload2 (pc := 61) d2002_61 rfl ?_
      refine jn_ifne (pc := 62) (a := 4) 69 d2002_62 (by decide) (by omega) (fun c62 => ?_) (fun c62 => by exfalso; omega)
      refine je_iconst (pc := 69) (v := 0) d2002_69 rfl ?_
      refine je_iload1 (pc := 70) d2002_70 rfl ?_
      refine jn_ifne (pc := 71) (a := (n)) 78 d2002_71 (by decide) (by omega) (fun c71 => ?_) (fun c71 => by exfalso; omega)
      refine je_iconst (pc := 78) (v := 0) d2002_78 rfl ?_
      refine jn_icne (pc := 79) (a := 0) (b := 0) 92 d2002_79 (by decide) (by omega) (by omega) (fun c79 => by exfalso; omega) (fun c79 => ?_)
      refine je_iload1 (pc := 82) d2002_82 rfl ?_
      refine je_bipush (pc := 83) (v := 40) d2002_83 rfl ?_
      refine jn_icge (pc := 85) (a := (n)) (b := 40) 92 d2002_85 (by decide) (by omega) (by omega) (fun c85 => ?_) (fun c85 => ?_)
      · exact KB (decide_eq_true (by omega))
      · refine je_iload3 (pc := 88) d2002_88 rfl ?_
        refine jb_ifeq (pc := 89) 100 d2002_89 (by decide) (fun c89 => ?_) (fun c89 => ?_)
        · exact KG (fun z => by have := of_decide_eq_true z; omega)
        · exact KB (decide_eq_true (by omega))
    · refine jn_icge (pc := 19) (a := (S.1.2.1)) (b := 8) 39 d2002_19 (by decide) (by omega) (by omega) (fun c19 => ?_) (fun c19 => ?_)
      · refine je_iconst (pc := 39) (v := 1) d2002_39 rfl ?_
        refine je_goto (pc := 40) 44 d2002_40 (by decide) ?_
        refine ju_eqi (v := (b2 (S.1.2.1 = 8))) (b2_t (by omega)).symm ?_
        exact jn19
      · refine je_iload2 (pc := 22) d2002_22 rfl ?_
        refine je_iconst (pc := 23) (v := 5) d2002_23 rfl ?_
        refine jn_icne (pc := 24) (a := 4) (b := 5) 43 d2002_24 (by decide) (by omega) (by omega) (fun c24 => ?_) (fun c24 => by exfalso; omega)
        refine je_iconst (pc := 43) (v := 0) d2002_43 rfl ?_
        refine ju_eqi (v := (b2 (S.1.2.1 = 8))) (b2_f (by omega)).symm ?_
        exact jn19
set_option maxHeartbeats 4000000 in
theorem t_Sr_readClause_5 (d : Nat) {bc bs : Nat} {h : jx_H} {N a n q : Nat} {S : MS} (H : jx_St h) (X : txS h N (0, q)) (hn : n ≤ 40) (hN : N ≤ 400) (hT : bytT (h.2.1 3) N) (ha : 304 ≤ a) (SP : jx_Sp h a) (RA : h.2.2.2 4 1 = some a) (R : rS h.2.1 a S) (W : S.1.1 ≤ 10 ∧ S.1.2.1 ≤ 8 ∧ S.1.2.2.1 ≤ 8) (hk : kdS (h.2.1 3) N (skB (h.2.1 3) N q) = 5) : jx_Tr (d + 7) bc bs 2002 [.ref 4, .int (nI n)] h (fun r h' => r = none ∧ fC (stA a) h h' ∧ txS h' N (clS (h.2.1 3) N n q S).1 ∧ rS h'.2.1 a (clS (h.2.1 3) N n q S).2) := by
  refine jx_tr jM_Sr_readClause rfl rfl (lv := [some (.ref 4), some (.int (nI n)), none, none]) rfl ?_
  have q1 := X.1
  obtain ⟨hq, A⟩ := X.2.2.1 rfl
  have f0 : h.2.1 2 5 = 0 := X.2.1
  have hb : skB (h.2.1 3) N q ≤ N := sk_N hq
  have KB : flS n 5 S = true → jx_Ev (d + 7) bc bs 2002 92 [some (.ref 4), some (.int (nI n)), some (.int (nI 5)), some (.int (b2 (S.1.2.2.1 = 8)))] [] h (fun r h' => r = none ∧ fC (stA a) h h' ∧ txS h' N (clS (h.2.1 3) N n q S).1 ∧ rS h'.2.1 a (clS (h.2.1 3) N n q S).2) := by
    intro fl
    refine je_aload0 (pc := 92) d2002_92 rfl ?_
    refine ju_getr (pc := 93) (b := 2) d2002_93 jF_2_18 rfl (sK4 H) (sR4_0 H) ?_
    refine je_iconst (pc := 96) (v := 4) d2002_96 rfl ?_
    refine ju_callv (pc := 97) (as := [_]) d2002_97 jL_2_55 jM_Tx_blame rfl (by decide) (sK2 H) rfl (by exact Nat.le_of_ble_eq_true rfl) (t_Tx_blame (d + 5) (b := skB (h.2.1 3) N q) (c := 4) H f0 A.2.1 (by decide) (by omega)) (fun r97 h97 q97 => ?_)
    obtain ⟨rfl, eb⟩ := q97
    obtain ⟨xb, fb⟩ := txS.bad (p := q) q1 eb (show skB (h.2.1 3) N q ≤ 400 by omega) (show 4 ≤ 4 by decide)
    have Hb := fb.St H
    have SPb := fb.Sp SP
    have Rb := fb.rr RA
    have nz : ¬ fltI (skB (h.2.1 3) N q) 4 = 0 := flt_nz (by omega) (by decide)
    have eTb : h97.2.1 3 = h.2.1 3 := fb.2 3 (by decide)
    refine je_aload0 (pc := 100) d2002_100 rfl ?_
    refine ju_getr (pc := 101) (b := 2) d2002_101 jF_2_18 rfl (sK4 Hb) (sR4_0 Hb) ?_
    refine ju_callv (pc := 104) (as := []) d2002_104 jL_2_58 jM_Tx_advance rfl (by decide) (sK2 Hb) rfl (by exact Nat.le_of_ble_eq_true rfl) (t_Tx_advance_n (d + 3) Hb xb.2.1 nz) (fun r104 h104 q104 => ?_)
    obtain ⟨rfl, e104⟩ := q104
    obtain rfl := e104.symm
    refine je_iload2 (pc := 107) d2002_107 rfl ?_
    refine je_table (pc := 108) 183 d2002_108 (by decide) (by decide) (off := 75) rfl (by decide) ?_
    refine je_aload0 (pc := 183) d2002_183 rfl ?_
    refine ju_callv (pc := 184) (as := []) d2002_184 jL_2_76 jM_Sr_readWant rfl (by decide) (sK4 Hb) rfl (by exact Nat.le_of_ble_eq_true rfl) (t_Sr_readWant d (N := N) (a := a) (s := (fltI (skB (h.2.1 3) N q) 4, q)) (S := S) Hb xb hq hN (by rw [eTb]; exact hT) ha SPb Rb (R.of (fun b b1 b2 => fb.2 b (by omega))) W (fun z => absurd z nz)) (fun r184 h184 q184 => ?_)
    obtain ⟨rfl, g1, g2, g3⟩ := q184
    rw [pt_f nz] at g2 g3
    refine je_goto (pc := 187) 190 d2002_187 (by decide) ?_
    refine je_ret (pc := 190) d2002_190 rfl ?_
    rw [cl_f (by rw [hk]; decide) (by rw [hk]; exact fl)]
    exact ⟨rfl, fb.sa.tr g1, g2, g3⟩
  have KG : ¬ flS n 5 S = true → jx_Ev (d + 7) bc bs 2002 100 [some (.ref 4), some (.int (nI n)), some (.int (nI 5)), some (.int (b2 (S.1.2.2.1 = 8)))] [] h (fun r h' => r = none ∧ fC (stA a) h h' ∧ txS h' N (clS (h.2.1 3) N n q S).1 ∧ rS h'.2.1 a (clS (h.2.1 3) N n q S).2) := by
    intro fl
    refine je_aload0 (pc := 100) d2002_100 rfl ?_
    refine ju_getr (pc := 101) (b := 2) d2002_101 jF_2_18 rfl (sK4 H) (sR4_0 H) ?_
    refine ju_callv (pc := 104) (as := []) d2002_104 jL_2_58 jM_Tx_advance rfl (by decide) (sK2 H) rfl (by exact Nat.le_of_ble_eq_true rfl) (t_Tx_advance (d + 3) (N := N) (u := tkE (h.2.1 3) N (skB (h.2.1 3) N q)) H q1 A.2.2.1 hN (tk_N hb).2 f0) (fun r104 h104 q104 => ?_)
    obtain ⟨rfl, fa, j1, A2⟩ := q104
    have Ha := fa.St H
    have SPa := fa.Sp SP
    have Ra := fa.rr RA
    have eTa : h104.2.1 3 = h.2.1 3 := fa.2 3 (by decide)
    have xa : txS h104 N (0, tkE (h.2.1 3) N (skB (h.2.1 3) N q)) := ⟨(j1 1 (by decide) (by decide) (by decide)).trans q1, (j1 5 (by decide) (by decide) (by decide)).trans f0, fun _ => ⟨(tk_N hb).2, by rw [eTa]; exact A2⟩, fun z => absurd rfl z⟩
    refine je_iload2 (pc := 107) d2002_107 rfl ?_
    refine je_table (pc := 108) 183 d2002_108 (by decide) (by decide) (off := 75) rfl (by decide) ?_
    refine je_aload0 (pc := 183) d2002_183 rfl ?_
    refine ju_callv (pc := 184) (as := []) d2002_184 jL_2_76 jM_Sr_readWant rfl (by decide) (sK4 Ha) rfl (by exact Nat.le_of_ble_eq_true rfl) (t_Sr_readWant d (N := N) (a := a) (s := (0, tkE (h.2.1 3) N (skB (h.2.1 3) N q))) (S := S) Ha xa (tk_N hb).2 hN (by rw [eTa]; exact hT) ha SPa Ra (R.of (fun b b1 b2 => fa.2 b (by omega))) W (fun _ => by have := W.2.2; have := mt decide_eq_true fl; omega)) (fun r184 h184 q184 => ?_)
    obtain ⟨rfl, g1, g2, g3⟩ := q184
    rw [eTa] at g2 g3
    refine je_goto (pc := 187) 190 d2002_187 (by decide) ?_
    refine je_ret (pc := 190) d2002_190 rfl ?_
    rw [cl_o (by rw [hk]; decide) (by rw [hk]; exact fl), hk]
    exact ⟨rfl, fa.sa.tr g1, g2, g3⟩
  by_cases n0 : n = 0
  · skip
    refine je_aload0 (pc := 0) d2002_0 rfl ?_
    refine ju_callv (pc := 1) (as := []) d2002_1 jL_2_44 jM_Sr_clauseKind rfl (by decide) (sK4 H) rfl (by exact Nat.le_of_ble_eq_true rfl) (t_Sr_clauseKind d H A hN hb hT) (fun r1 h1 q1 => ?_)
    obtain ⟨rfl, e1⟩ := q1
    obtain rfl := e1.symm
    refine ju_eqi (v := nI 5) (by rw [hk]; rfl) ?_
    refine ju_istore2 (pc := 4) (lv' := [some _, some _, some _, none]) d2002_4 rfl rfl ?_
    refine je_iload2 (pc := 5) d2002_5 rfl ?_
    refine je_iconst (pc := 6) (v := 4) d2002_6 rfl ?_
    refine jn_icne (pc := 7) (a := 5) (b := 4) 22 d2002_7 (by decide) (by omega) (by omega) (fun c7 => ?_) (fun c7 => by exfalso; omega)
    refine je_iload2 (pc := 22) d2002_22 rfl ?_
    refine je_iconst (pc := 23) (v := 5) d2002_23 rfl ?_
    refine jn_icne (pc := 24) (a := 5) (b := 5) 43 d2002_24 (by decide) (by omega) (by omega) (fun c24 => by exfalso; omega) (fun c24 => ?_)
    refine je_aload0 (pc := 27) d2002_27 rfl ?_
    refine ju_getr (pc := 28) (b := a) d2002_28 jF_2_12 rfl (sK4 H) RA ?_
    refine ju_geti (pc := 31) d2002_31 jF_2_52 rfl SP.1.1 ?_
    refine ju_eqi (v := nI S.1.2.2.1) R.1.2.2.2 ?_
    refine je_bipush (pc := 34) (v := 8) d2002_34 rfl ?_
    refine ju_tern2 (pc := 36) (V := (b2 (S.1.2.2.1 = 8))) 44 ?_ (fun jn36 => ?_)
    · refine ju_istore3 (pc := 44) (lv' := [some _, some _, some _, some _]) d2002_44 rfl rfl ?_
      refine je_iload2 (pc := 45) d2002_45 rfl ?_
      refine je_iconst (pc := 46) (v := -1) d2002_46 rfl ?_
      refine je_icne (pc := 47) 61 d2002_47 (by decide) (fun c47 => ?_) (fun c47 => absurd c47 (by decide))
      refine je_iload2 (pc := 61) d2002_61 rfl ?_
      refine jn_ifne (pc := 62) (a := 5) 69 d2002_62 (by decide) (by omega) (fun c62 => ?_) (fun c62 => by exfalso; omega)
      refine je_iconst (pc := 69) (v := 0) d2002_69 rfl ?_
      refine je_iload1 (pc := 70) d2002_70 rfl ?_
      refine jn_ifne (pc := 71) (a := (n)) 78 d2002_71 (by decide) (by omega) (fun c71 => by exfalso; omega) (fun c71 => ?_)
      refine je_iconst (pc := 74) (v := 1) d2002_74 rfl ?_
      refine je_goto (pc := 75) 79 d2002_75 (by decide) ?_
      refine jn_icne (pc := 79) (a := 0) (b := 1) 92 d2002_79 (by decide) (by omega) (by omega) (fun c79 => ?_) (fun c79 => by exfalso; omega)
      exact KB (decide_eq_true (by omega))
    · refine jn_iclt (pc := 36) (a := (S.1.2.2.1)) (b := 8) 43 d2002_36 (by decide) (by omega) (by omega) (fun c36 => ?_) (fun c36 => ?_)
      · refine je_iconst (pc := 43) (v := 0) d2002_43 rfl ?_
        refine ju_eqi (v := (b2 (S.1.2.2.1 = 8))) (b2_f (by omega)).symm ?_
        exact jn36
      · refine je_iconst (pc := 39) (v := 1) d2002_39 rfl ?_
        refine je_goto (pc := 40) 44 d2002_40 (by decide) ?_
        refine ju_eqi (v := (b2 (S.1.2.2.1 = 8))) (b2_t (by omega)).symm ?_
        exact jn36
  · skip
    refine je_aload0 (pc := 0) d2002_0 rfl ?_
    refine ju_callv (pc := 1) (as := []) d2002_1 jL_2_44 jM_Sr_clauseKind rfl (by decide) (sK4 H) rfl (by exact Nat.le_of_ble_eq_true rfl) (t_Sr_clauseKind d H A hN hb hT) (fun r1 h1 q1 => ?_)
    obtain ⟨rfl, e1⟩ := q1
    obtain rfl := e1.symm
    refine ju_eqi (v := nI 5) (by rw [hk]; rfl) ?_
    refine ju_istore2 (pc := 4) (lv' := [some _, some _, some _, none]) d2002_4 rfl rfl ?_
    refine je_iload2 (pc := 5) d2002_5 rfl ?_
    refine je_iconst (pc := 6) (v := 4) d2002_6 rfl ?_
    refine jn_icne (pc := 7) (a := 5) (b := 4) 22 d2002_7 (by decide) (by omega) (by omega) (fun c7 => ?_) (fun c7 => by exfalso; omega)
    refine je_iload2 (pc := 22) d2002_22 rfl ?_
    refine je_iconst (pc := 23) (v := 5) d2002_23 rfl ?_
    refine jn_icne (pc := 24) (a := 5) (b := 5) 43 d2002_24 (by decide) (by omega) (by omega) (fun c24 => by exfalso; omega) (fun c24 => ?_)
    refine je_aload0 (pc := 27) d2002_27 rfl ?_
    refine ju_getr (pc := 28) (b := a) d2002_28 jF_2_12 rfl (sK4 H) RA ?_
    refine ju_geti (pc := 31) d2002_31 jF_2_52 rfl SP.1.1 ?_
    refine ju_eqi (v := nI S.1.2.2.1) R.1.2.2.2 ?_
    refine je_bipush (pc := 34) (v := 8) d2002_34 rfl ?_
    refine ju_tern2 (pc := 36) (V := (b2 (S.1.2.2.1 = 8))) 44 ?_ (fun jn36 => ?_)
    · refine ju_istore3 (pc := 44) (lv' := [some _, some _, some _, some _]) d2002_44 rfl rfl ?_
      refine je_iload2 (pc := 45) d2002_45 rfl ?_
      refine je_iconst (pc := 46) (v := -1) d2002_46 rfl ?_
      refine je_icne (pc := 47) 61 d2002_47 (by decide) (fun c47 => ?_) (fun c47 => absurd c47 (by decide))
      refine je_iload2 (pc := 61) d2002_61 rfl ?_
      refine jn_ifne (pc := 62) (a := 5) 69 d2002_62 (by decide) (by omega) (fun c62 => ?_) (fun c62 => by exfalso; omega)
      refine je_iconst (pc := 69) (v := 0) d2002_69 rfl ?_
      refine je_iload1 (pc := 70) d2002_70 rfl ?_
      refine jn_ifne (pc := 71) (a := (n)) 78 d2002_71 (by decide) (by omega) (fun c71 => ?_) (fun c71 => by exfalso; omega)
      refine je_iconst (pc := 78) (v := 0) d2002_78 rfl ?_
      refine jn_icne (pc := 79) (a := 0) (b := 0) 92 d2002_79 (by decide) (by omega) (by omega) (fun c79 => by exfalso; omega) (fun c79 => ?_)
      refine je_iload1 (pc := 82) d2002_82 rfl ?_
      refine je_bipush (pc := 83) (v := 40) d2002_83 rfl ?_
      refine jn_icge (pc := 85) (a := (n)) (b := 40) 92 d2002_85 (by decide) (by omega) (by omega) (fun c85 => ?_) (fun c85 => ?_)
      · exact KB (decide_eq_true (by omega))
      · refine je_iload3 (pc := 88) d2002_88 rfl ?_
        refine jb_ifeq (pc := 89) 100 d2002_89 (by decide) (fun c89 => ?_) (fun c89 => ?_)
        · exact KG (fun z => by have := of_decide_eq_true z; omega)
        · exact KB (decide_eq_true (by omega))
    · refine jn_iclt (pc := 36) (a := (S.1.2.2.1)) (b := 8) 43 d2002_36 (by decide) (by omega) (by omega) (fun c36 => ?_) (fun c36 => ?_)
      · refine je_iconst (pc := 43) (v := 0) d2002_43 rfl ?_
        refine ju_eqi (v := (b2 (S.1.2.2.1 = 8))) (b2_f (by omega)).symm ?_
        exact jn36
      · refine je_iconst (pc := 39) (v := 1) d2002_39 rfl ?_
        refine je_goto (pc := 40) 44 d2002_40 (by decide) ?_
        refine ju_eqi (v := (b2 (S.1.2.2.1 = 8))) (b2_t (by omega)).symm ?_
        exact jn36
theorem t_Sr_readClause (d : Nat) {bc bs : Nat} {h : jx_H} {N a n q : Nat} {S : MS} (H : jx_St h) (X : txS h N (0, q)) (hn : n ≤ 40) (hN : N ≤ 400) (hT : bytT (h.2.1 3) N) (ha : 304 ≤ a) (SP : jx_Sp h a) (RA : h.2.2.2 4 1 = some a) (R : rS h.2.1 a S) (W : S.1.1 ≤ 10 ∧ S.1.2.1 ≤ 8 ∧ S.1.2.2.1 ≤ 8) : jx_Tr (d + 7) bc bs 2002 [.ref 4, .int (nI n)] h (fun r h' => r = none ∧ fC (stA a) h h' ∧ txS h' N (clS (h.2.1 3) N n q S).1 ∧ rS h'.2.1 a (clS (h.2.1 3) N n q S).2) := by
  have kl := kd_le (T := h.2.1 3) (N := N) (b := skB (h.2.1 3) N q)
  match hk : kdS (h.2.1 3) N (skB (h.2.1 3) N q), kl with
  | 0, _ => exact t_Sr_readClause_0 d H X hn hN hT ha SP RA R W hk
  | 1, _ => exact t_Sr_readClause_1 d H X hn hN hT ha SP RA R W hk
  | 2, _ => exact t_Sr_readClause_2 d H X hn hN hT ha SP RA R W hk
  | 3, _ => exact t_Sr_readClause_3 d H X hn hN hT ha SP RA R W hk
  | 4, _ => exact t_Sr_readClause_4 d H X hn hN hT ha SP RA R W hk
  | 5, _ => exact t_Sr_readClause_5 d H X hn hN hT ha SP RA R W hk
  | 6, _ => exact t_Sr_readClause_6 d H X hn hN hT ha SP RA R W hk
  | k + 7, kl => exact absurd kl (by omega)
