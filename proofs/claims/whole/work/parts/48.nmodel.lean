/-! nights: the model -/
theorem mSt.fr {I I' : Nat → Nat → Int32} {S : MS} (q : mSt I S) (e : ∀ b, (258 ≤ b ∧ b ≤ 261) ∨ (263 ≤ b ∧ b ≤ 264) ∨ b = 268 ∨ b = 269 → I' b = I b) (e4 : ∀ j, j < 4 → I' 254 j = I 254 j) : mSt I' S := by
  unfold mSt at q ⊢
  rw [e4 0 (by decide), e4 1 (by decide), e4 2 (by decide), e4 3 (by decide), e 258 (by decide), e 259 (by decide), e 260 (by decide), e 261 (by decide), e 263 (by decide), e 264 (by decide), e 268 (by decide), e 269 (by decide)]
  exact q
theorem mo_side (d : Nat) {bc bs : Nat} {h : jx_H} {S : MS} {l : Nat → Int32} {v : Nat} (H : jx_St h) (hS : mSt h.2.1 S) (wS : wfS S) (hl : ∀ m, m < 10 → h.2.1 255 m = l m) (hv : v < S.1.2.1) : jx_Tr (d + 1) bc bs 12047 [.ref 253, .int (nI v)] h (fun r h' => r = some (.int (sdM S l v)) ∧ h' = h) := by
  obtain ⟨⟨m, hm, em⟩, -, -⟩ := wS.2.2.2.2.2.1 v hv
  obtain ⟨q1, q2, -⟩ := hS.2.2.1 v hv
  have w8 := wS.2.1
  have hm10 : m < 10 := by rcases wS.1 with z | z <;> omega
  refine (t_Mo_sideOf d (m := m) H (by omega) hm10 (q1.trans em)).mono (fun r h' q => ?_)
  obtain ⟨rfl, rfl⟩ := q
  refine ⟨?_, rfl⟩
  unfold sdM vM vP
  rw [em, nI_clamp (by omega), hl m hm10, q2]
set_option maxHeartbeats 2000000 in
theorem t_Mo_villagesIn (d : Nat) {bc bs : Nat} {h : jx_H} {S : MS} {l : Nat → Int32} {m : Nat} {sd : Int32} (H : jx_St h) (hS : mSt h.2.1 S) (wS : wfS S) (hl : ∀ m, m < 10 → h.2.1 255 m = l m) : jx_Tr (d + 2) bc bs 12062 [.ref 253, .int (nI m), .int sd] h (fun r h' => r = some (.int (nI (inC S l m sd S.1.2.1))) ∧ h' = h) := by
  refine jx_tr jM_Mo_villagesIn rfl rfl (lv := [some (.ref 253), some (.int (nI m)), some (.int sd), none, none]) rfl ?_
  have w8 := wS.2.1
  refine je_iconst (pc := 0) (v := 0) d12062_0 rfl ?_
  refine ju_istore3 (pc := 1) (lv' := [some _, some _, some _, some _, none]) d12062_1 rfl rfl ?_
  refine je_iconst (pc := 2) (v := 0) d12062_2 rfl ?_
  refine ju_istore (pc := 3) (lv' := [some _, some _, some _, some _, some _]) d12062_3 rfl rfl ?_
  refine je_loop (σ := Unit) (S.1.2.1) (fun k xx => [some (.ref 253), some (.int (nI m)), some (.int sd), some (.int (nI (inC S l m sd k))), some (.int (nI k))]) (fun _ _ h' => h' = h) (fun k xx h' hk e kk => ?_) (fun xx h' e => ?_) (0) () h (by omega) rfl
  · obtain rfl := e.symm
    refine je_iload (pc := 5) d12062_5 rfl ?_
    refine je_aload0 (pc := 7) d12062_7 rfl ?_
    refine ju_getr (pc := 8) (b := 254) d12062_8 jF_12_9 rfl (sK253 H) (sR253_1 H) ?_
    refine je_iconst (pc := 11) (v := 2) d12062_11 rfl ?_
    refine ju_iald (pc := 12) (jn := 2) d12062_12 (sK254 H) (by first | assumption | exact jx_ok_dec (by decide)) (by decide) ?_
    refine ju_eqi (v := nI S.1.2.1) hS.1.2.2.1 ?_
    refine jn_icge (pc := 13) (a := (k)) (b := (S.1.2.1)) 51 d12062_13 (by decide) (by omega) (by omega) (fun c13 => by exfalso; omega) (fun c13 => ?_)
    refine je_iload3 (pc := 16) d12062_16 rfl ?_
    refine je_aload0 (pc := 17) d12062_17 rfl ?_
    refine ju_getr (pc := 18) (b := 259) d12062_18 jF_12_25 rfl (sK253 H) (sR253_6 H) ?_
    refine je_iload (pc := 21) d12062_21 rfl ?_
    refine ju_iald (pc := 23) (jn := (k)) d12062_23 (sK259 H) (vp_in_nI (by omega) (by decide)) (nI_clamp (by omega)) ?_
    refine ju_eqi (v := S.2.1.2.1 k) (hS.2.2.1 k hk).1 ?_
    refine je_iload1 (pc := 24) d12062_24 rfl ?_
    refine ju_tern2 (pc := 25) (V := nI (if S.2.1.2.1 k = nI m ∧ sdM S l k = sd then 1 else 0)) 43 ?_ (fun jn25 => ?_)
    · refine je_iadd (pc := 43) d12062_43 ?_
      refine ju_eqi (v := nI ((inC S l m sd k) + (if S.2.1.2.1 k = nI m ∧ sdM S l k = sd then 1 else 0))) (nI_add (inC S l m sd k) (if S.2.1.2.1 k = nI m ∧ sdM S l k = sd then 1 else 0)) ?_
      refine ju_istore3 (pc := 44) (lv' := [some _, some _, some _, some _, some _]) d12062_44 rfl rfl ?_
      refine ju_incN (pc := 45) (v := nI ((k) + 1)) (lv' := [some _, some _, some _, some _, some _]) d12062_45 rfl (nI_1 (k)) rfl ?_
      refine je_goto (pc := 48) 5 d12062_48 (by decide) ?_
      rw [show inC S l m sd k + (if S.2.1.2.1 k = nI m ∧ sdM S l k = sd then 1 else 0) = inC S l m sd (k + 1) from by unfold inC; rw [fa_cnt]; simp only [decide_eq_true_eq]]
      exact kk () _ rfl
    · refine je_icne (pc := 25) 42 d12062_25 (by decide) (fun c25 => ?_) (fun c25 => ?_)
      · refine je_iconst (pc := 42) (v := 0) d12062_42 rfl ?_
        refine ju_eqi (v := nI (if S.2.1.2.1 k = nI m ∧ sdM S l k = sd then 1 else 0)) (by rw [if_neg (fun z => c25 z.1)]; rfl) ?_
        exact jn25
      · refine je_aload0 (pc := 28) d12062_28 rfl ?_
        refine je_iload (pc := 29) d12062_29 rfl ?_
        refine ju_callv (pc := 31) (as := [_]) d12062_31 jL_12_394 jM_Mo_sideOf rfl (by decide) (sK253 H) rfl (by exact Nat.le_of_ble_eq_true rfl) (mo_side d H hS wS hl hk) (fun r31 h31 q31 => ?_)
        obtain ⟨rfl, e31⟩ := q31
        obtain rfl := e31.symm
        refine je_iload2 (pc := 34) d12062_34 rfl ?_
        refine je_icne (pc := 35) 42 d12062_35 (by decide) (fun c35 => ?_) (fun c35 => ?_)
        · refine je_iconst (pc := 42) (v := 0) d12062_42 rfl ?_
          refine ju_eqi (v := nI (if S.2.1.2.1 k = nI m ∧ sdM S l k = sd then 1 else 0)) (by rw [if_neg (fun z => c35 z.2)]; rfl) ?_
          exact jn25
        · refine je_iconst (pc := 38) (v := 1) d12062_38 rfl ?_
          refine je_goto (pc := 39) 43 d12062_39 (by decide) ?_
          refine ju_eqi (v := nI (if S.2.1.2.1 k = nI m ∧ sdM S l k = sd then 1 else 0)) (by rw [if_pos ⟨c25, c35⟩]; rfl) ?_
          exact jn25
  · obtain rfl := e.symm
    refine je_iload (pc := 5) d12062_5 rfl ?_
    refine je_aload0 (pc := 7) d12062_7 rfl ?_
    refine ju_getr (pc := 8) (b := 254) d12062_8 jF_12_9 rfl (sK253 H) (sR253_1 H) ?_
    refine je_iconst (pc := 11) (v := 2) d12062_11 rfl ?_
    refine ju_iald (pc := 12) (jn := 2) d12062_12 (sK254 H) (by first | assumption | exact jx_ok_dec (by decide)) (by decide) ?_
    refine ju_eqi (v := nI S.1.2.1) hS.1.2.2.1 ?_
    refine jn_icge (pc := 13) (a := ((S.1.2.1))) (b := (S.1.2.1)) 51 d12062_13 (by decide) (by omega) (by omega) (fun c13 => ?_) (fun c13 => by exfalso; omega)
    refine je_iload3 (pc := 51) d12062_51 rfl ?_
    refine je_iret (pc := 52) d12062_52 rfl ?_
    exact ⟨rfl, rfl⟩
theorem cr_0 {A B : Prop} {_ : Decidable A} {_ : Decidable B} (hB : ¬ B) : b2 A = b2 A + b2 B := by rw [b2_f hB]; exact (Int32.add_zero _).symm
theorem cr_1 {A B : Prop} {_ : Decidable A} {_ : Decidable B} (hB : B) : b2 A + 1 = b2 A + b2 B := by rw [b2_t hB]
set_option maxHeartbeats 2000000 in
theorem t_Mo_crustOf (d : Nat) {bc bs : Nat} {h : jx_H} {S : MS} {m : Nat} (H : jx_St h) (hS : mSt h.2.1 S) (hm : m < S.1.1) (hmi : S.1.1 ≤ 10) (hb : ¬ bkd (h.2.1 254 4) (nI m)) : jx_Tr (d + 3) bc bs 12063 [.ref 253, .int (nI m)] h (fun r h' => r = some (.int (b2 (bkd (h.2.1 254 4) (nI (m - 1))) + b2 (bkd (h.2.1 254 4) (nI (bhd S.1.1 m))))) ∧ h' = h) := by
  refine jx_tr jM_Mo_crustOf rfl rfl (lv := [some (.ref 253), some (.int (nI m)), none]) rfl ?_
  refine je_iload1 (pc := 0) d12063_0 rfl ?_
  refine ju_tern1 (pc := 1) (V := b2 (bkd (h.2.1 254 4) (nI (m - 1)))) 19 ?_ (fun jn1 => ?_)
  · refine ju_istore2 (pc := 19) (lv' := [some _, some _, some _]) d12063_19 rfl rfl ?_
    refine je_iload1 (pc := 20) d12063_20 rfl ?_
    refine je_iconst (pc := 21) (v := 1) d12063_21 rfl ?_
    refine je_iadd (pc := 22) d12063_22 ?_
    refine ju_eqi (v := nI ((m) + 1)) (nI_add (m) 1) ?_
    refine je_aload0 (pc := 23) d12063_23 rfl ?_
    refine ju_getr (pc := 24) (b := 254) d12063_24 jF_12_9 rfl (sK253 H) (sR253_1 H) ?_
    refine je_iconst (pc := 27) (v := 0) d12063_27 rfl ?_
    refine ju_iald (pc := 28) (jn := 0) d12063_28 (sK254 H) (by first | assumption | exact jx_ok_dec (by decide)) (by decide) ?_
    refine ju_eqi (v := nI S.1.1) hS.1.1 ?_
    refine ju_tern2 (pc := 29) (V := b2 (bkd (h.2.1 254 4) (nI (m - 1))) + b2 (bkd (h.2.1 254 4) (nI (bhd S.1.1 m)))) 49 ?_ (fun jn29 => ?_)
    · refine je_iret (pc := 49) d12063_49 rfl ?_
      exact ⟨rfl, rfl⟩
    · refine jn_icge (pc := 29) (a := ((m) + 1)) (b := (S.1.1)) 48 d12063_29 (by decide) (by omega) (by omega) (fun c29 => ?_) (fun c29 => ?_)
      · refine je_iload2 (pc := 48) d12063_48 rfl ?_
        refine ju_eqi (v := b2 (bkd (h.2.1 254 4) (nI (m - 1))) + b2 (bkd (h.2.1 254 4) (nI (bhd S.1.1 m)))) (cr_0 (by rw [show bhd S.1.1 m = m by unfold bhd; rw [if_neg (by omega)]]; exact hb)) ?_
        exact jn29
      · refine je_aload0 (pc := 32) d12063_32 rfl ?_
        refine je_iload1 (pc := 33) d12063_33 rfl ?_
        refine je_iconst (pc := 34) (v := 1) d12063_34 rfl ?_
        refine je_iadd (pc := 35) d12063_35 ?_
        refine ju_eqi (v := nI ((m) + 1)) (nI_add (m) 1) ?_
        refine ju_callv (pc := 36) (as := [_]) d12063_36 jL_12_182 jM_Mo_isBaked rfl (by decide) (sK253 H) rfl (by exact Nat.le_of_ble_eq_true rfl) (t_Mo_isBaked (d + 0) H _) (fun r36 h36 q36 => ?_)
        obtain ⟨rfl, e36⟩ := q36
        obtain rfl := e36.symm
        refine jb_ifeq (pc := 39) 48 d12063_39 (by decide) (fun c39 => ?_) (fun c39 => ?_)
        · refine je_iload2 (pc := 48) d12063_48 rfl ?_
          refine ju_eqi (v := b2 (bkd (h.2.1 254 4) (nI (m - 1))) + b2 (bkd (h.2.1 254 4) (nI (bhd S.1.1 m)))) (cr_0 (by rw [show bhd S.1.1 m = m + 1 by unfold bhd; rw [if_pos (by omega)]]; exact c39)) ?_
          exact jn29
        · refine je_iload2 (pc := 42) d12063_42 rfl ?_
          refine je_iconst (pc := 43) (v := 1) d12063_43 rfl ?_
          refine je_iadd (pc := 44) d12063_44 ?_
          refine je_goto (pc := 45) 49 d12063_45 (by decide) ?_
          refine ju_eqi (v := b2 (bkd (h.2.1 254 4) (nI (m - 1))) + b2 (bkd (h.2.1 254 4) (nI (bhd S.1.1 m)))) (cr_1 (by rw [show bhd S.1.1 m = m + 1 by unfold bhd; rw [if_pos (by omega)]]; exact c39)) ?_
          exact jn29
  · refine jn_ifle (pc := 1) (a := (m)) 18 d12063_1 (by decide) (by omega) (fun c1 => ?_) (fun c1 => ?_)
    · refine je_iconst (pc := 18) (v := 0) d12063_18 rfl ?_
      refine ju_eqi (v := b2 (bkd (h.2.1 254 4) (nI (m - 1)))) (b2_f (q := bkd (h.2.1 254 4) (nI (m - 1))) (by rw [show m - 1 = m by omega]; exact hb)).symm ?_
      exact jn1
    · refine je_aload0 (pc := 4) d12063_4 rfl ?_
      refine je_iload1 (pc := 5) d12063_5 rfl ?_
      refine je_iconst (pc := 6) (v := 1) d12063_6 rfl ?_
      refine je_isub (pc := 7) d12063_7 ?_
      refine ju_eqi (v := nI ((m) - 1)) (pk_sub (a := (m)) (b := 1) (by omega)) ?_
      refine ju_callv (pc := 8) (as := [_]) d12063_8 jL_12_182 jM_Mo_isBaked rfl (by decide) (sK253 H) rfl (by exact Nat.le_of_ble_eq_true rfl) (t_Mo_isBaked (d + 0) H _) (fun r8 h8 q8 => ?_)
      obtain ⟨rfl, e8⟩ := q8
      obtain rfl := e8.symm
      refine jb_ifeq (pc := 11) 18 d12063_11 (by decide) (fun c11 => ?_) (fun c11 => ?_)
      · refine je_iconst (pc := 18) (v := 0) d12063_18 rfl ?_
        refine ju_eqi (v := b2 (bkd (h.2.1 254 4) (nI (m - 1)))) (b2_f c11).symm ?_
        exact jn1
      · refine je_iconst (pc := 14) (v := 1) d12063_14 rfl ?_
        refine je_goto (pc := 15) 19 d12063_15 (by decide) ?_
        refine ju_eqi (v := b2 (bkd (h.2.1 254 4) (nI (m - 1)))) (b2_t c11).symm ?_
        exact jn1
def mRul (h : jx_H) : Option MR → Prop
  | none => h.2.1 254 8 = -1
  | some r => ∃ f, f < 6 ∧ h.2.1 254 8 = nI f ∧ mRu h.2.1 f r ∧ wfR r
def mLaw (h : jx_H) (S : MS) (R : Option MR) : Prop := mSt h.2.1 S ∧ mRul h R
set_option maxHeartbeats 2000000 in
theorem t_Mo_creepOf_n (d : Nat) {bc bs : Nat} {h : jx_H} {S : MS} {L : ML} {m : Nat} (H : jx_St h) (hS : mSt h.2.1 S) (wS : wfS S) (hL : mLa h.2.1 L) (hm : m < S.1.1) (hmi : S.1.1 ≤ 10) (hb : ¬ bkd L.2.2.2.2.1 (nI m)) (x : Int32) (h8 : h.2.1 254 8 = -1) : jx_Tr (d + 5) bc bs 12060 [.ref 253, .int (nI m), .int x] h (fun r h' => r = some (.int (crpF S none L x m)) ∧ fC (fun _ => False) h h') := by
  refine jx_tr jM_Mo_creepOf rfl rfl (lv := [some (.ref 253), some (.int (nI m)), some (.int x)]) rfl ?_
  have w8 := wS.2.1
  obtain ⟨r1, r4, r5, r6⟩ := id hL
  have hbh : bhd S.1.1 m < 10 := by unfold bhd; split <;> omega
  refine je_aload0 (pc := 0) d12060_0 rfl ?_
  refine ju_getr (pc := 1) (b := 254) d12060_1 jF_12_9 rfl (sK253 H) (sR253_1 H) ?_
  refine je_bipush (pc := 4) (v := 8) d12060_4 rfl ?_
  refine ju_iald (pc := 6) (jn := 8) d12060_6 (sK254 H) (by first | assumption | exact jx_ok_dec (by decide)) (by decide) ?_
  refine je_iconst (pc := 7) (v := -1) d12060_7 rfl ?_
  refine je_icne (pc := 8) 40 d12060_8 (by decide) (fun c8 => absurd c8 (fun z => z h8)) (fun c8 => ?_)
  refine je_aload0 (pc := 11) d12060_11 rfl ?_
  refine ju_getr (pc := 12) (b := 256) d12060_12 jF_12_16 rfl (sK253 H) (sR253_3 H) ?_
  refine je_iload1 (pc := 15) d12060_15 rfl ?_
  refine ju_iald (pc := 16) (jn := (m)) d12060_16 (sK256 H) (vp_in_nI (by omega) (by decide)) (nI_clamp (by omega)) ?_
  refine ju_eqi (v := L.2.1 m) (r1 m (by omega)).2.1 ?_
  refine je_bipush (pc := 17) (v := 20) d12060_17 rfl ?_
  refine je_idiv (pc := 19) d12060_19 (by decide) ?_
  refine je_aload0 (pc := 20) d12060_20 rfl ?_
  refine ju_getr (pc := 21) (b := 254) d12060_21 jF_12_9 rfl (sK253 H) (sR253_1 H) ?_
  refine je_iconst (pc := 24) (v := 1) d12060_24 rfl ?_
  refine ju_iald (pc := 25) (jn := 1) d12060_25 (sK254 H) (by first | assumption | exact jx_ok_dec (by decide)) (by decide) ?_
  refine ju_eqi (v := S.1.2.2.2) hS.1.2.1 ?_
  refine je_iadd (pc := 26) d12060_26 ?_
  refine je_aload0 (pc := 27) d12060_27 rfl ?_
  refine ju_getr (pc := 28) (b := 257) d12060_28 jF_12_19 rfl (sK253 H) (sR253_4 H) ?_
  refine je_iload1 (pc := 31) d12060_31 rfl ?_
  refine ju_iald (pc := 32) (jn := (m)) d12060_32 (sK257 H) (vp_in_nI (by omega) (by decide)) (nI_clamp (by omega)) ?_
  refine ju_eqi (v := L.2.2.1 m) (r1 m (by omega)).2.2 ?_
  refine je_isub (pc := 33) d12060_33 ?_
  refine je_i2l (pc := 34) d12060_34 ?_
  refine je_iconst (pc := 35) (v := 3) d12060_35 rfl ?_
  refine ju_calls (pc := 36) (as := [_, _]) d12060_36 jL_12_406 jM_Mo_held rfl rfl (by exact Nat.le_of_ble_eq_true rfl) (t_Mo_held (d + 3) _ _) (fun r36 h36 q36 => ?_)
  obtain ⟨rfl, e36⟩ := q36
  obtain rfl := e36.symm
  refine ju_eqi (v := crpF S none L x m) (mheld_w _ 3) ?_
  refine je_iret (pc := 39) d12060_39 rfl ?_
  exact ⟨rfl, fC.rf⟩
set_option maxHeartbeats 4000000 in
theorem t_Mo_creepOf_r (d : Nat) {bc bs : Nat} {h : jx_H} {S : MS} {L : ML} {m : Nat} (H : jx_St h) (hS : mSt h.2.1 S) (wS : wfS S) (hL : mLa h.2.1 L) (hm : m < S.1.1) (hmi : S.1.1 ≤ 10) (hb : ¬ bkd L.2.2.2.2.1 (nI m)) (x : Int32) {f : Nat} {r : MR} (hf : f < 6) (h8 : h.2.1 254 8 = nI f) (mr : mRu h.2.1 f r) (wf : wfR r) : jx_Tr (d + 5) bc bs 12060 [.ref 253, .int (nI m), .int x] h (fun r' h' => r' = some (.int (crpF S (some r) L x m)) ∧ fC (fun _ => False) h h') := by
  refine jx_tr jM_Mo_creepOf rfl rfl (lv := [some (.ref 253), some (.int (nI m)), some (.int x)]) rfl ?_
  have w8 := wS.2.1
  obtain ⟨r1, r4, r5, r6⟩ := id hL
  have hbh : bhd S.1.1 m < 10 := by unfold bhd; split <;> omega
  refine je_aload0 (pc := 0) d12060_0 rfl ?_
  refine ju_getr (pc := 1) (b := 254) d12060_1 jF_12_9 rfl (sK253 H) (sR253_1 H) ?_
  refine je_bipush (pc := 4) (v := 8) d12060_4 rfl ?_
  refine ju_iald (pc := 6) (jn := 8) d12060_6 (sK254 H) (by first | assumption | exact jx_ok_dec (by decide)) (by decide) ?_
  refine je_iconst (pc := 7) (v := -1) d12060_7 rfl ?_
  refine je_icne (pc := 8) 40 d12060_8 (by decide) (fun c8 => ?_) (fun c8 => absurd c8 (fun z => absurd (h8.symm.trans z) (fun y => nI_pos (n := f) (by omega) (by rw [y]; decide))))
  refine je_aload0 (pc := 40) d12060_40 rfl ?_
  refine ju_getr (pc := 41) (b := 288) d12060_41 jF_12_117 rfl (sK253 H) (sR253_45 H) ?_
  refine je_iconst (pc := 44) (v := 0) d12060_44 rfl ?_
  refine je_iload1 (pc := 45) d12060_45 rfl ?_
  refine je_i2l (pc := 46) d12060_46 ?_
  refine ju_last (pc := 47) (jn := 0) d12060_47 (sK288 H) (by first | assumption | exact jx_ok_dec (by decide)) (by decide) ?_
  refine je_aload0 (pc := 48) d12060_48 rfl ?_
  refine ju_getr (pc := 49) (b := 288) d12060_49 jF_12_117 rfl (sK253 H.wL) (sR253_45 H.wL) ?_
  refine je_iconst (pc := 52) (v := 1) d12060_52 rfl ?_
  refine je_aload0 (pc := 53) d12060_53 rfl ?_
  refine ju_getr (pc := 54) (b := 255) d12060_54 jF_12_13 rfl (sK253 H.wL) (sR253_2 H.wL) ?_
  refine je_iload1 (pc := 57) d12060_57 rfl ?_
  refine ju_iald (pc := 58) (jn := (m)) d12060_58 (sK255 H.wL) (vp_in_nI (by omega) (by decide)) (nI_clamp (by omega)) ?_
  refine ju_eqi (v := L.1 m) (r1 m (by omega)).1 ?_
  refine je_i2l (pc := 59) d12060_59 ?_
  refine ju_last (pc := 60) (jn := 1) d12060_60 (sK288 H.wL) (by first | assumption | exact jx_ok_dec (by decide)) (by decide) ?_
  refine je_aload0 (pc := 61) d12060_61 rfl ?_
  refine ju_getr (pc := 62) (b := 288) d12060_62 jF_12_117 rfl (sK253 H.wL.wL) (sR253_45 H.wL.wL) ?_
  refine je_iconst (pc := 65) (v := 2) d12060_65 rfl ?_
  refine je_aload0 (pc := 66) d12060_66 rfl ?_
  refine ju_getr (pc := 67) (b := 256) d12060_67 jF_12_16 rfl (sK253 H.wL.wL) (sR253_3 H.wL.wL) ?_
  refine je_iload1 (pc := 70) d12060_70 rfl ?_
  refine ju_iald (pc := 71) (jn := (m)) d12060_71 (sK256 H.wL.wL) (vp_in_nI (by omega) (by decide)) (nI_clamp (by omega)) ?_
  refine ju_eqi (v := L.2.1 m) (r1 m (by omega)).2.1 ?_
  refine je_i2l (pc := 72) d12060_72 ?_
  refine ju_last (pc := 73) (jn := 2) d12060_73 (sK288 H.wL.wL) (by first | assumption | exact jx_ok_dec (by decide)) (by decide) ?_
  refine je_aload0 (pc := 74) d12060_74 rfl ?_
  refine ju_getr (pc := 75) (b := 288) d12060_75 jF_12_117 rfl (sK253 H.wL.wL.wL) (sR253_45 H.wL.wL.wL) ?_
  refine je_iconst (pc := 78) (v := 3) d12060_78 rfl ?_
  refine je_aload0 (pc := 79) d12060_79 rfl ?_
  refine ju_getr (pc := 80) (b := 257) d12060_80 jF_12_19 rfl (sK253 H.wL.wL.wL) (sR253_4 H.wL.wL.wL) ?_
  refine je_iload1 (pc := 83) d12060_83 rfl ?_
  refine ju_iald (pc := 84) (jn := (m)) d12060_84 (sK257 H.wL.wL.wL) (vp_in_nI (by omega) (by decide)) (nI_clamp (by omega)) ?_
  refine ju_eqi (v := L.2.2.1 m) (r1 m (by omega)).2.2 ?_
  refine je_i2l (pc := 85) d12060_85 ?_
  refine ju_last (pc := 86) (jn := 3) d12060_86 (sK288 H.wL.wL.wL) (by first | assumption | exact jx_ok_dec (by decide)) (by decide) ?_
  refine je_aload0 (pc := 87) d12060_87 rfl ?_
  refine ju_getr (pc := 88) (b := 288) d12060_88 jF_12_117 rfl (sK253 H.wL.wL.wL.wL) (sR253_45 H.wL.wL.wL.wL) ?_
  refine je_iconst (pc := 91) (v := 4) d12060_91 rfl ?_
  refine je_aload0 (pc := 92) d12060_92 rfl ?_
  refine ju_getr (pc := 93) (b := 254) d12060_93 jF_12_9 rfl (sK253 H.wL.wL.wL.wL) (sR253_1 H.wL.wL.wL.wL) ?_
  refine je_iconst (pc := 96) (v := 1) d12060_96 rfl ?_
  refine ju_iald (pc := 97) (jn := 1) d12060_97 (sK254 H.wL.wL.wL.wL) (by first | assumption | exact jx_ok_dec (by decide)) (by decide) ?_
  refine ju_eqi (v := S.1.2.2.2) hS.1.2.1 ?_
  refine je_i2l (pc := 98) d12060_98 ?_
  refine ju_last (pc := 99) (jn := 4) d12060_99 (sK288 H.wL.wL.wL.wL) (by first | assumption | exact jx_ok_dec (by decide)) (by decide) ?_
  refine je_aload0 (pc := 100) d12060_100 rfl ?_
  refine ju_getr (pc := 101) (b := 288) d12060_101 jF_12_117 rfl (sK253 H.wL.wL.wL.wL.wL) (sR253_45 H.wL.wL.wL.wL.wL) ?_
  refine je_iconst (pc := 104) (v := 5) d12060_104 rfl ?_
  refine je_iload2 (pc := 105) d12060_105 rfl ?_
  refine je_i2l (pc := 106) d12060_106 ?_
  refine ju_last (pc := 107) (jn := 5) d12060_107 (sK288 H.wL.wL.wL.wL.wL) (by first | assumption | exact jx_ok_dec (by decide)) (by decide) ?_
  refine je_aload0 (pc := 108) d12060_108 rfl ?_
  refine ju_getr (pc := 109) (b := 288) d12060_109 jF_12_117 rfl (sK253 H.wL.wL.wL.wL.wL.wL) (sR253_45 H.wL.wL.wL.wL.wL.wL) ?_
  refine je_bipush (pc := 112) (v := 6) d12060_112 rfl ?_
  refine je_aload0 (pc := 114) d12060_114 rfl ?_
  refine ju_getr (pc := 115) (b := 254) d12060_115 jF_12_9 rfl (sK253 H.wL.wL.wL.wL.wL.wL) (sR253_1 H.wL.wL.wL.wL.wL.wL) ?_
  refine je_iconst (pc := 118) (v := 5) d12060_118 rfl ?_
  refine ju_iald (pc := 119) (jn := 5) d12060_119 (sK254 H.wL.wL.wL.wL.wL.wL) (by first | assumption | exact jx_ok_dec (by decide)) (by decide) ?_
  refine ju_eqi (v := L.2.2.2.2.2) r6 ?_
  refine je_i2l (pc := 120) d12060_120 ?_
  refine ju_last (pc := 121) (jn := 6) d12060_121 (sK288 H.wL.wL.wL.wL.wL.wL) (by first | assumption | exact jx_ok_dec (by decide)) (by decide) ?_
  refine je_aload0 (pc := 122) d12060_122 rfl ?_
  refine ju_getr (pc := 123) (b := 288) d12060_123 jF_12_117 rfl (sK253 H.wL.wL.wL.wL.wL.wL.wL) (sR253_45 H.wL.wL.wL.wL.wL.wL.wL) ?_
  refine je_bipush (pc := 126) (v := 7) d12060_126 rfl ?_
  refine je_aload0 (pc := 128) d12060_128 rfl ?_
  refine ju_getr (pc := 129) (b := 255) d12060_129 jF_12_13 rfl (sK253 H.wL.wL.wL.wL.wL.wL.wL) (sR253_2 H.wL.wL.wL.wL.wL.wL.wL) ?_
  refine je_iload1 (pc := 132) d12060_132 rfl ?_
  refine ju_tern1 (pc := 133) (V := nI (m - 1)) 143 ?_ (fun jn133 => ?_)
  · refine ju_iald (pc := 143) (jn := (m - 1)) d12060_143 (sK255 H.wL.wL.wL.wL.wL.wL.wL) (vp_in_nI (by omega) (by decide)) (nI_clamp (by omega)) ?_
    refine ju_eqi (v := L.1 (m - 1)) (r1 (m - 1) (by omega)).1 ?_
    refine je_i2l (pc := 144) d12060_144 ?_
    refine ju_last (pc := 145) (jn := 7) d12060_145 (sK288 H.wL.wL.wL.wL.wL.wL.wL) (by first | assumption | exact jx_ok_dec (by decide)) (by decide) ?_
    refine je_aload0 (pc := 146) d12060_146 rfl ?_
    refine ju_getr (pc := 147) (b := 288) d12060_147 jF_12_117 rfl (sK253 H.wL.wL.wL.wL.wL.wL.wL.wL) (sR253_45 H.wL.wL.wL.wL.wL.wL.wL.wL) ?_
    refine je_bipush (pc := 150) (v := 8) d12060_150 rfl ?_
    refine je_aload0 (pc := 152) d12060_152 rfl ?_
    refine ju_getr (pc := 153) (b := 255) d12060_153 jF_12_13 rfl (sK253 H.wL.wL.wL.wL.wL.wL.wL.wL) (sR253_2 H.wL.wL.wL.wL.wL.wL.wL.wL) ?_
    refine je_iload1 (pc := 156) d12060_156 rfl ?_
    refine je_iconst (pc := 157) (v := 1) d12060_157 rfl ?_
    refine je_iadd (pc := 158) d12060_158 ?_
    refine ju_eqi (v := nI ((m) + 1)) (nI_add (m) 1) ?_
    refine je_aload0 (pc := 159) d12060_159 rfl ?_
    refine ju_getr (pc := 160) (b := 254) d12060_160 jF_12_9 rfl (sK253 H.wL.wL.wL.wL.wL.wL.wL.wL) (sR253_1 H.wL.wL.wL.wL.wL.wL.wL.wL) ?_
    refine je_iconst (pc := 163) (v := 0) d12060_163 rfl ?_
    refine ju_iald (pc := 164) (jn := 0) d12060_164 (sK254 H.wL.wL.wL.wL.wL.wL.wL.wL) (by first | assumption | exact jx_ok_dec (by decide)) (by decide) ?_
    refine ju_eqi (v := nI S.1.1) hS.1.1 ?_
    refine ju_tern2 (pc := 165) (V := nI (bhd S.1.1 m)) 175 ?_ (fun jn165 => ?_)
    · refine ju_iald (pc := 175) (jn := (bhd S.1.1 m)) d12060_175 (sK255 H.wL.wL.wL.wL.wL.wL.wL.wL) (vp_in_nI (by omega) (by decide)) (nI_clamp (by omega)) ?_
      refine ju_eqi (v := L.1 (bhd S.1.1 m)) (r1 _ (by omega)).1 ?_
      refine je_i2l (pc := 176) d12060_176 ?_
      refine ju_last (pc := 177) (jn := 8) d12060_177 (sK288 H.wL.wL.wL.wL.wL.wL.wL.wL) (by first | assumption | exact jx_ok_dec (by decide)) (by decide) ?_
      refine je_aload0 (pc := 178) d12060_178 rfl ?_
      refine ju_getr (pc := 179) (b := 288) d12060_179 jF_12_117 rfl (sK253 H.wL.wL.wL.wL.wL.wL.wL.wL.wL) (sR253_45 H.wL.wL.wL.wL.wL.wL.wL.wL.wL) ?_
      refine je_bipush (pc := 182) (v := 9) d12060_182 rfl ?_
      refine je_aload0 (pc := 184) d12060_184 rfl ?_
      refine je_iload1 (pc := 185) d12060_185 rfl ?_
      refine je_iconst (pc := 186) (v := 0) d12060_186 rfl ?_
      refine ju_callv (pc := 187) (as := [_, _]) d12060_187 jL_12_410 jM_Mo_villagesIn rfl (by decide) (sK253 H.wL.wL.wL.wL.wL.wL.wL.wL.wL) rfl (by exact Nat.le_of_ble_eq_true rfl) (t_Mo_villagesIn (d + 2) (S := S) (l := L.1) H.wL.wL.wL.wL.wL.wL.wL.wL.wL hS wS (fun m hm => (r1 m hm).1)) (fun r187 h187 q187 => ?_)
      obtain ⟨rfl, e187⟩ := q187
      obtain rfl := e187.symm
      refine je_i2l (pc := 190) d12060_190 ?_
      refine ju_last (pc := 191) (jn := 9) d12060_191 (sK288 H.wL.wL.wL.wL.wL.wL.wL.wL.wL) (by first | assumption | exact jx_ok_dec (by decide)) (by decide) ?_
      refine je_aload0 (pc := 192) d12060_192 rfl ?_
      refine ju_getr (pc := 193) (b := 288) d12060_193 jF_12_117 rfl (sK253 H.wL.wL.wL.wL.wL.wL.wL.wL.wL.wL) (sR253_45 H.wL.wL.wL.wL.wL.wL.wL.wL.wL.wL) ?_
      refine je_bipush (pc := 196) (v := 10) d12060_196 rfl ?_
      refine je_aload0 (pc := 198) d12060_198 rfl ?_
      refine je_iload1 (pc := 199) d12060_199 rfl ?_
      refine je_iconst (pc := 200) (v := 1) d12060_200 rfl ?_
      refine ju_callv (pc := 201) (as := [_, _]) d12060_201 jL_12_410 jM_Mo_villagesIn rfl (by decide) (sK253 H.wL.wL.wL.wL.wL.wL.wL.wL.wL.wL) rfl (by exact Nat.le_of_ble_eq_true rfl) (t_Mo_villagesIn (d + 2) (S := S) (l := L.1) H.wL.wL.wL.wL.wL.wL.wL.wL.wL.wL hS wS (fun m hm => (r1 m hm).1)) (fun r201 h201 q201 => ?_)
      obtain ⟨rfl, e201⟩ := q201
      obtain rfl := e201.symm
      refine je_i2l (pc := 204) d12060_204 ?_
      refine ju_last (pc := 205) (jn := 10) d12060_205 (sK288 H.wL.wL.wL.wL.wL.wL.wL.wL.wL.wL) (by first | assumption | exact jx_ok_dec (by decide)) (by decide) ?_
      refine je_aload0 (pc := 206) d12060_206 rfl ?_
      refine ju_getr (pc := 207) (b := 288) d12060_207 jF_12_117 rfl (sK253 H.wL.wL.wL.wL.wL.wL.wL.wL.wL.wL.wL) (sR253_45 H.wL.wL.wL.wL.wL.wL.wL.wL.wL.wL.wL) ?_
      refine je_bipush (pc := 210) (v := 11) d12060_210 rfl ?_
      refine je_aload0 (pc := 212) d12060_212 rfl ?_
      refine je_iload1 (pc := 213) d12060_213 rfl ?_
      refine ju_callv (pc := 214) (as := [_]) d12060_214 jL_12_413 jM_Mo_crustOf rfl (by decide) (sK253 H.wL.wL.wL.wL.wL.wL.wL.wL.wL.wL.wL) rfl (by exact Nat.le_of_ble_eq_true rfl) (t_Mo_crustOf (d + 1) (S := S) H.wL.wL.wL.wL.wL.wL.wL.wL.wL.wL.wL hS hm hmi (show ¬ bkd (h.2.1 254 4) (nI m) from by rw [r5]; exact hb)) (fun r214 h214 q214 => ?_)
      obtain ⟨rfl, e214⟩ := q214
      obtain rfl := e214.symm
      refine ju_eqi (v := b2 (bkd L.2.2.2.2.1 (nI (m - 1))) + b2 (bkd L.2.2.2.2.1 (nI (bhd S.1.1 m)))) (by show b2 (bkd (h.2.1 254 4) _) + b2 (bkd (h.2.1 254 4) _) = _; rw [r5]) ?_
      refine je_i2l (pc := 217) d12060_217 ?_
      refine ju_last (pc := 218) (jn := 11) d12060_218 (sK288 H.wL.wL.wL.wL.wL.wL.wL.wL.wL.wL.wL) (by first | assumption | exact jx_ok_dec (by decide)) (by decide) ?_
      refine je_aload0 (pc := 219) d12060_219 rfl ?_
      refine ju_callv (pc := 220) (as := []) d12060_220 jL_12_416 jM_Mo_crept rfl (by decide) (sK253 H.wL.wL.wL.wL.wL.wL.wL.wL.wL.wL.wL.wL) rfl (by exact Nat.le_of_ble_eq_true rfl) (t_Mo_crept d (f := f) (r := r) H.wL.wL.wL.wL.wL.wL.wL.wL.wL.wL.wL.wL hf h8 mr wf) (fun r220 h220 q220 => ?_)
      obtain ⟨rfl, f1, f2⟩ := q220
      refine je_iconst (pc := 223) (v := 3) d12060_223 rfl ?_
      refine ju_calls (pc := 224) (as := [_, _]) d12060_224 jL_12_406 jM_Mo_held rfl rfl (by exact Nat.le_of_ble_eq_true rfl) (t_Mo_held (d + 3) _ _) (fun r224 h224 q224 => ?_)
      obtain ⟨rfl, e224⟩ := q224
      obtain rfl := e224.symm
      refine ju_eqi (v := crpF S (some r) L x m) (by rw [mheld_3]; show hold3 _ = hold3 _; rw [crL_cg (wd' := wdF S L x m) (fun j hj => by match j, hj with | 0, _ => rfl | 1, _ => rfl | 2, _ => rfl | 3, _ => rfl | 4, _ => rfl | 5, _ => rfl | 6, _ => rfl | 7, _ => rfl | 8, _ => rfl | 9, _ => rfl | 10, _ => rfl | 11, _ => rfl) wf mr.ok (by omega)]) ?_
      refine je_iret (pc := 227) d12060_227 rfl ?_
      exact ⟨rfl, ⟨⟨f1.1.1, f1.1.2⟩, fun b hb => f1.2 b hb⟩⟩
    · refine jn_icge (pc := 165) (a := ((m) + 1)) (b := (S.1.1)) 174 d12060_165 (by decide) (by omega) (by omega) (fun c165 => ?_) (fun c165 => ?_)
      · refine je_iload1 (pc := 174) d12060_174 rfl ?_
        refine ju_eqi (v := nI (bhd S.1.1 m)) (by rw [show bhd S.1.1 m = m by unfold bhd; rw [if_neg (by omega)]]) ?_
        exact jn165
      · refine je_iload1 (pc := 168) d12060_168 rfl ?_
        refine je_iconst (pc := 169) (v := 1) d12060_169 rfl ?_
        refine je_iadd (pc := 170) d12060_170 ?_
        refine ju_eqi (v := nI ((m) + 1)) (nI_add (m) 1) ?_
        refine je_goto (pc := 171) 175 d12060_171 (by decide) ?_
        refine ju_eqi (v := nI (bhd S.1.1 m)) (by rw [show bhd S.1.1 m = m + 1 by unfold bhd; rw [if_pos (by omega)]]) ?_
        exact jn165
  · refine jn_ifle (pc := 133) (a := (m)) 142 d12060_133 (by decide) (by omega) (fun c133 => ?_) (fun c133 => ?_)
    · refine je_iload1 (pc := 142) d12060_142 rfl ?_
      refine ju_eqi (v := nI (m - 1)) (by rw [show m - 1 = m by omega]) ?_
      exact jn133
    · refine je_iload1 (pc := 136) d12060_136 rfl ?_
      refine je_iconst (pc := 137) (v := 1) d12060_137 rfl ?_
      refine je_isub (pc := 138) d12060_138 ?_
      refine ju_eqi (v := nI ((m) - 1)) (pk_sub (a := (m)) (b := 1) (by omega)) ?_
      refine je_goto (pc := 139) 143 d12060_139 (by decide) ?_
      refine ju_eqi (v := nI (m - 1)) rfl ?_
      exact jn133
theorem mo_creep (d : Nat) {bc bs : Nat} {h : jx_H} {S : MS} {R : Option MR} {L : ML} {m : Nat} (H : jx_St h) (C : mLaw h S R) (wS : wfS S) (hL : mLa h.2.1 L) (hm : m < S.1.1) (hmi : S.1.1 ≤ 10) (hb : ¬ bkd L.2.2.2.2.1 (nI m)) (x : Int32) : jx_Tr (d + 5) bc bs 12060 [.ref 253, .int (nI m), .int x] h (fun r h' => r = some (.int (crpF S R L x m)) ∧ fC (fun _ => False) h h') := by
  obtain ⟨c1, c2⟩ := C
  match R, c2 with
  | none, c2 => exact t_Mo_creepOf_n d H c1 wS hL hm hmi hb x c2
  | some r, ⟨f, f1, f2, f3, f4⟩ => exact t_Mo_creepOf_r d H c1 wS hL hm hmi hb x f1 f2 f3 f4
theorem in_4 (x : Int32) : b2 ((-4 : Int64) ≤ x.toInt64 ∧ x.toInt64 ≤ 4) = b2 (¬ (4 < x ∨ x < -4)) := b2_c (by
  rw [fa_le64, fa_le64, Int32.toInt_toInt64, fa_lt, fa_lt, show (-4 : Int64).toInt = -4 from rfl, show (4 : Int64).toInt = 4 from rfl, show (-4 : Int32).toInt = -4 from rfl, show (4 : Int32).toInt = 4 from rfl]
  omega)
theorem sg_e (bk : Int32) (m : Nat) (x : Int32) (c : Prop) [Decidable c] : x - ngF bk m (if c then 1 else -1) = x + ngF bk m (if c then -1 else 1) ∧ x + ngF bk m (if c then 1 else -1) = x - ngF bk m (if c then -1 else 1) := by
  unfold ngF
  by_cases b : bkd bk (nI m)
  · rw [if_pos b, if_pos b]
    exact ⟨by rw [Int32.sub_zero, Int32.add_zero], by rw [Int32.sub_zero, Int32.add_zero]⟩
  · rw [if_neg b, if_neg b]
    by_cases q : c
    · rw [if_pos q, if_pos q]
      exact ⟨Int32.sub_eq_add_neg x 1, by rw [Int32.sub_eq_add_neg]; rfl⟩
    · rw [if_neg q, if_neg q]
      exact ⟨by rw [Int32.sub_eq_add_neg]; rfl, (Int32.sub_eq_add_neg x 1).symm⟩
set_option maxHeartbeats 2000000 in
theorem t_Mo_sags (d : Nat) {bc bs : Nat} {h : jx_H} {l : Nat → Int32} {m : Nat} (H : jx_St h) (hm : m + 1 < 10) (hl : ∀ m, m < 10 → h.2.1 255 m = l m) : jx_Tr (d + 3) bc bs 12068 [.ref 253, .int (nI m)] h (fun r h' => r = none ∧ fC (fun b => b = 255) h h' ∧ ∀ i, i < 10 → h'.2.1 255 i = sag1 (h.2.1 254 4) m l i) := by
  refine jx_tr jM_Mo_sags rfl rfl (lv := [some (.ref 253), some (.int (nI m)), none, none]) rfl ?_
  refine je_aload0 (pc := 0) d12068_0 rfl ?_
  refine ju_getr (pc := 1) (b := 255) d12068_1 jF_12_13 rfl (sK253 H) (sR253_2 H) ?_
  refine je_iload1 (pc := 4) d12068_4 rfl ?_
  refine ju_iald (pc := 5) (jn := (m)) d12068_5 (sK255 H) (vp_in_nI (by omega) (by decide)) (nI_clamp (by omega)) ?_
  refine ju_eqi (v := l m) (hl m (by omega)) ?_
  refine je_aload0 (pc := 6) d12068_6 rfl ?_
  refine ju_getr (pc := 7) (b := 255) d12068_7 jF_12_13 rfl (sK253 H) (sR253_2 H) ?_
  refine je_iload1 (pc := 10) d12068_10 rfl ?_
  refine je_iconst (pc := 11) (v := 1) d12068_11 rfl ?_
  refine je_iadd (pc := 12) d12068_12 ?_
  refine ju_eqi (v := nI ((m) + 1)) (nI_add (m) 1) ?_
  refine ju_iald (pc := 13) (jn := ((m) + 1)) d12068_13 (sK255 H) (vp_in_nI (by omega) (by decide)) (nI_clamp (by omega)) ?_
  refine ju_eqi (v := l (m + 1)) (hl (m + 1) hm) ?_
  refine je_isub (pc := 14) d12068_14 ?_
  refine ju_istore2 (pc := 15) (lv' := [some _, some _, some _, none]) d12068_15 rfl rfl ?_
  refine je_iload2 (pc := 16) d12068_16 rfl ?_
  refine je_i2l (pc := 17) d12068_17 ?_
  refine je_ldc2 (pc := 18) d12068_18 jK_12_420 ?_
  refine je_ldc2 (pc := 21) d12068_21 jK_12_422 ?_
  refine ju_calls (pc := 24) (as := [_, _, _]) d12068_24 jL_12_170 jM_Mo_in rfl rfl (by exact Nat.le_of_ble_eq_true rfl) (t_Mo_in (d + 1) _ _ _) (fun r24 h24 q24 => ?_)
  obtain ⟨rfl, e24⟩ := q24
  obtain rfl := e24.symm
  refine ju_eqi (v := b2 (¬ (4 < (l m - l (m + 1)) ∨ (l m - l (m + 1)) < -4))) (in_4 _) ?_
  refine jb_ifeq (pc := 27) 31 d12068_27 (by decide) (fun c27 => ?_) (fun c27 => ?_)
  · refine je_iload2 (pc := 31) d12068_31 rfl ?_
    refine ju_tern1 (pc := 32) (V := (if 0 < (l m - l (m + 1)) then 1 else -1)) 40 ?_ (fun jn32 => ?_)
    · refine ju_istore3 (pc := 40) (lv' := [some _, some _, some _, some _]) d12068_40 rfl rfl ?_
      refine je_aload0 (pc := 41) d12068_41 rfl ?_
      refine ju_getr (pc := 42) (b := 255) d12068_42 jF_12_13 rfl (sK253 H) (sR253_2 H) ?_
      refine je_iload1 (pc := 45) d12068_45 rfl ?_
      refine je_dup2 (pc := 46) d12068_46 rfl rfl ?_
      refine ju_iald (pc := 47) (jn := (m)) d12068_47 (sK255 H) (vp_in_nI (by omega) (by decide)) (nI_clamp (by omega)) ?_
      refine ju_eqi (v := l m) (hl m (by omega)) ?_
      refine je_aload0 (pc := 48) d12068_48 rfl ?_
      refine je_iload1 (pc := 49) d12068_49 rfl ?_
      refine ju_callv (pc := 50) (as := [_]) d12068_50 jL_12_182 jM_Mo_isBaked rfl (by decide) (sK253 H) rfl (by exact Nat.le_of_ble_eq_true rfl) (t_Mo_isBaked (d + 0) H _) (fun r50 h50 q50 => ?_)
      obtain ⟨rfl, e50⟩ := q50
      obtain rfl := e50.symm
      refine ju_tern1 (pc := 53) (V := ngF (h.2.1 254 4) m (if 0 < (l m - l (m + 1)) then 1 else -1)) 61 ?_ (fun jn53 => ?_)
      · refine je_isub (pc := 61) d12068_61 ?_
        refine ju_iast (pc := 62) (jn := (m)) d12068_62 (sK255 H) (vp_in_nI (by omega) (by decide)) (nI_clamp (by omega)) ?_
        refine je_aload0 (pc := 63) d12068_63 rfl ?_
        refine ju_getr (pc := 64) (b := 255) d12068_64 jF_12_13 rfl (sK253 H.wI) (sR253_2 H.wI) ?_
        refine je_iload1 (pc := 67) d12068_67 rfl ?_
        refine je_iconst (pc := 68) (v := 1) d12068_68 rfl ?_
        refine je_iadd (pc := 69) d12068_69 ?_
        refine ju_eqi (v := nI ((m) + 1)) (nI_add (m) 1) ?_
        refine je_dup2 (pc := 70) d12068_70 rfl rfl ?_
        refine ju_iald (pc := 71) (jn := ((m) + 1)) d12068_71 (sK255 H.wI) (vp_in_nI (by omega) (by decide)) (nI_clamp (by omega)) ?_
        refine ju_eqi (v := l (m + 1)) (by rw [wI_at, jx_up_ne _ _ (by omega)]; exact hl (m + 1) hm) ?_
        refine je_aload0 (pc := 72) d12068_72 rfl ?_
        refine je_iload1 (pc := 73) d12068_73 rfl ?_
        refine je_iconst (pc := 74) (v := 1) d12068_74 rfl ?_
        refine je_iadd (pc := 75) d12068_75 ?_
        refine ju_eqi (v := nI ((m) + 1)) (nI_add (m) 1) ?_
        refine ju_callv (pc := 76) (as := [_]) d12068_76 jL_12_182 jM_Mo_isBaked rfl (by decide) (sK253 H.wI) rfl (by exact Nat.le_of_ble_eq_true rfl) (t_Mo_isBaked (d + 0) H.wI _) (fun r76 h76 q76 => ?_)
        obtain ⟨rfl, e76⟩ := q76
        obtain rfl := e76.symm
        refine ju_tern1 (pc := 79) (V := ngF (h.2.1 254 4) (m + 1) (if 0 < (l m - l (m + 1)) then 1 else -1)) 87 ?_ (fun jn79 => ?_)
        · refine je_iadd (pc := 87) d12068_87 ?_
          refine ju_iast (pc := 88) (jn := ((m) + 1)) d12068_88 (sK255 H.wI) (vp_in_nI (by omega) (by decide)) (nI_clamp (by omega)) ?_
          refine je_ret (pc := 89) d12068_89 rfl ?_
          refine ⟨rfl, ((fC.rf (A := fun b => b = 255)).wI rfl).wI rfl, fun i hi => ?_⟩
          unfold sag1
          rw [if_pos (Decidable.not_not.mp c27), wI_at, wI_at, (sg_e _ _ _ _).1, (sg_e _ _ _ _).2]
          unfold jx_up
          rw [hl i hi]
        · refine jb_ifeq (pc := 79) 86 d12068_79 (by decide) (fun c79 => ?_) (fun c79 => ?_)
          · refine je_iload3 (pc := 86) d12068_86 rfl ?_
            refine ju_eqi (v := ngF (h.2.1 254 4) (m + 1) (if 0 < (l m - l (m + 1)) then 1 else -1)) (by rw [wI_ne _ _ _ (by decide)] at c79; unfold ngF; rw [if_neg c79]) ?_
            exact jn79
          · refine je_iconst (pc := 82) (v := 0) d12068_82 rfl ?_
            refine je_goto (pc := 83) 87 d12068_83 (by decide) ?_
            refine ju_eqi (v := ngF (h.2.1 254 4) (m + 1) (if 0 < (l m - l (m + 1)) then 1 else -1)) (by rw [wI_ne _ _ _ (by decide)] at c79; unfold ngF; rw [if_pos c79]) ?_
            exact jn79
      · refine jb_ifeq (pc := 53) 60 d12068_53 (by decide) (fun c53 => ?_) (fun c53 => ?_)
        · refine je_iload3 (pc := 60) d12068_60 rfl ?_
          refine ju_eqi (v := ngF (h.2.1 254 4) m (if 0 < (l m - l (m + 1)) then 1 else -1)) (by unfold ngF; rw [if_neg c53]) ?_
          exact jn53
        · refine je_iconst (pc := 56) (v := 0) d12068_56 rfl ?_
          refine je_goto (pc := 57) 61 d12068_57 (by decide) ?_
          refine ju_eqi (v := ngF (h.2.1 254 4) m (if 0 < (l m - l (m + 1)) then 1 else -1)) (by unfold ngF; rw [if_pos c53]) ?_
          exact jn53
    · refine ju_ifle (pc := 32) 39 d12068_32 (by decide) (fun c32 => ?_) (fun c32 => ?_)
      · refine je_iconst (pc := 39) (v := -1) d12068_39 rfl ?_
        refine ju_eqi (v := (if 0 < (l m - l (m + 1)) then 1 else -1)) (by rw [if_neg c32]) ?_
        exact jn32
      · refine je_iconst (pc := 35) (v := 1) d12068_35 rfl ?_
        refine je_goto (pc := 36) 40 d12068_36 (by decide) ?_
        refine ju_eqi (v := (if 0 < (l m - l (m + 1)) then 1 else -1)) (by rw [if_pos c32]) ?_
        exact jn32
  · refine je_ret (pc := 30) d12068_30 rfl ?_
    exact ⟨rfl, fC.rf, fun i hi => by unfold sag1; rw [if_neg c27]; exact hl i hi⟩
set_option maxHeartbeats 2000000 in
theorem t_Mo_notesSides (d : Nat) {bc bs : Nat} {h : jx_H} {S : MS} {l : Nat → Int32} (H : jx_St h) (hS : mSt h.2.1 S) (wS : wfS S) (hl : ∀ m, m < 10 → h.2.1 255 m = l m) : jx_Tr (d + 2) bc bs 12059 [.ref 253] h (fun r h' => r = none ∧ fC (fun b => b = 291) h h' ∧ ∀ v, v < S.1.2.1 → h'.2.1 291 v = sdM S l v) := by
  refine jx_tr jM_Mo_notesSides rfl rfl (lv := [some (.ref 253), none]) rfl ?_
  have w8 := wS.2.1
  refine je_iconst (pc := 0) (v := 0) d12059_0 rfl ?_
  refine ju_istore1 (pc := 1) (lv' := [some _, some _]) d12059_1 rfl rfl ?_
  refine je_loop (σ := Unit) (S.1.2.1) (fun k xx => [some (.ref 253), some (.int (nI k))]) (fun k _ h' => fC (fun b => b = 291) h h' ∧ ∀ v, v < k → h'.2.1 291 v = sdM S l v) (fun k xx h' hk e kk => ?_) (fun xx h' e => ?_) (0) () h (by omega) ⟨fC.rf, fun v hv => absurd hv (Nat.not_lt_zero v)⟩
  · obtain ⟨e1, e2⟩ := e
    have H1 := e1.St H
    have hS1 : mSt h'.2.1 S := hS.fr (fun b hb => e1.2 b (by omega)) (fun j hj => by rw [e1.2 254 (by omega)])
    refine je_iload1 (pc := 2) d12059_2 rfl ?_
    refine je_aload0 (pc := 3) d12059_3 rfl ?_
    refine ju_getr (pc := 4) (b := 254) d12059_4 jF_12_9 rfl (sK253 H1) (sR253_1 H1) ?_
    refine je_iconst (pc := 7) (v := 2) d12059_7 rfl ?_
    refine ju_iald (pc := 8) (jn := 2) d12059_8 (sK254 H1) (by first | assumption | exact jx_ok_dec (by decide)) (by decide) ?_
    refine ju_eqi (v := nI S.1.2.1) hS1.1.2.2.1 ?_
    refine jn_icge (pc := 9) (a := (k)) (b := (S.1.2.1)) 29 d12059_9 (by decide) (by omega) (by omega) (fun c9 => by exfalso; omega) (fun c9 => ?_)
    refine je_aload0 (pc := 12) d12059_12 rfl ?_
    refine ju_getr (pc := 13) (b := 291) d12059_13 jF_12_127 rfl (sK253 H1) (sR253_48 H1) ?_
    refine je_iload1 (pc := 16) d12059_16 rfl ?_
    refine je_aload0 (pc := 17) d12059_17 rfl ?_
    refine je_iload1 (pc := 18) d12059_18 rfl ?_
    refine ju_callv (pc := 19) (as := [_]) d12059_19 jL_12_394 jM_Mo_sideOf rfl (by decide) (sK253 H1) rfl (by exact Nat.le_of_ble_eq_true rfl) (mo_side d (l := l) H1 hS1 wS (fun m hm => by rw [e1.2 255 (by omega)]; exact hl m hm) hk) (fun r19 h19 q19 => ?_)
    obtain ⟨rfl, e19⟩ := q19
    obtain rfl := e19.symm
    refine ju_iast (pc := 22) (jn := (k)) d12059_22 (sK291 H1) (vp_in_nI (by omega) (by decide)) (nI_clamp (by omega)) ?_
    refine ju_incN (pc := 23) (v := nI ((k) + 1)) (lv' := [some _, some _]) d12059_23 rfl (nI_1 (k)) rfl ?_
    refine je_goto (pc := 26) 2 d12059_26 (by decide) ?_
    refine kk () _ ⟨e1.wI rfl, fun v hv => ?_⟩
    rw [wI_at]
    by_cases c : v = k
    · subst c; rw [jx_up_self]
    · rw [jx_up_ne _ _ c]; exact e2 v (by omega)
  · obtain ⟨e1, e2⟩ := e
    have H1 := e1.St H
    have hS1 : mSt h'.2.1 S := hS.fr (fun b hb => e1.2 b (by omega)) (fun j hj => by rw [e1.2 254 (by omega)])
    refine je_iload1 (pc := 2) d12059_2 rfl ?_
    refine je_aload0 (pc := 3) d12059_3 rfl ?_
    refine ju_getr (pc := 4) (b := 254) d12059_4 jF_12_9 rfl (sK253 H1) (sR253_1 H1) ?_
    refine je_iconst (pc := 7) (v := 2) d12059_7 rfl ?_
    refine ju_iald (pc := 8) (jn := 2) d12059_8 (sK254 H1) (by first | assumption | exact jx_ok_dec (by decide)) (by decide) ?_
    refine ju_eqi (v := nI S.1.2.1) hS1.1.2.2.1 ?_
    refine jn_icge (pc := 9) (a := ((S.1.2.1))) (b := (S.1.2.1)) 29 d12059_9 (by decide) (by omega) (by omega) (fun c9 => ?_) (fun c9 => by exfalso; omega)
    refine je_ret (pc := 29) d12059_29 rfl ?_
    exact ⟨rfl, e1, e2⟩
def croK (k : Nat) (S : MS) (l l' c : Nat → Int32) : Nat → Int32 := fun v => if v < k ∧ ¬ sdM S l v = sdM S l' v then c v + 1 else c v
theorem croK_y {k : Nat} {S : MS} {l l' c : Nat → Int32} (q : ¬ sdM S l k = sdM S l' k) (v : Nat) : jx_up (croK k S l l' c) k (c k + 1) v = croK (k + 1) S l l' c v := by
  unfold jx_up croK
  by_cases e : v = k
  · subst e; rw [if_pos (show v = v from rfl), if_pos (show v < v + 1 ∧ ¬ sdM S l v = sdM S l' v from ⟨by omega, q⟩)]
  · rw [if_neg e]
    have : v < k + 1 ↔ v < k := by omega
    simp only [this]
theorem croK_n {k : Nat} {S : MS} {l l' c : Nat → Int32} (q : sdM S l k = sdM S l' k) (v : Nat) : croK k S l l' c v = croK (k + 1) S l l' c v := by
  unfold croK
  by_cases e : v = k
  · subst e; rw [if_neg (fun z => z.2 q), if_neg (fun z => z.2 q)]
  · have : v < k + 1 ↔ v < k := by omega
    simp only [this]
theorem croK_k {k : Nat} {S : MS} {l l' c : Nat → Int32} {v : Nat} (h : k ≤ v) : croK k S l l' c v = c v := by unfold croK; rw [if_neg (fun z => by omega)]
set_option maxHeartbeats 2000000 in
theorem t_Mo_crossing (d : Nat) {bc bs : Nat} {h : jx_H} {S : MS} {l l' : Nat → Int32} (H : jx_St h) (hS : mSt h.2.1 S) (wS : wfS S) (hl : ∀ m, m < 10 → h.2.1 255 m = l' m) (hy : ∀ v, v < S.1.2.1 → h.2.1 291 v = sdM S l v) : jx_Tr (d + 2) bc bs 12069 [.ref 253] h (fun r h' => r = some (.int (nI (cnN S l l' S.1.2.1))) ∧ fC (fun b => b = 262) h h' ∧ ∀ v, v < 8 → h'.2.1 262 v = croF S l l' (h.2.1 262) v) := by
  refine jx_tr jM_Mo_crossing rfl rfl (lv := [some (.ref 253), none, none]) rfl ?_
  have w8 := wS.2.1
  refine je_iconst (pc := 0) (v := 0) d12069_0 rfl ?_
  refine ju_istore1 (pc := 1) (lv' := [some _, some _, none]) d12069_1 rfl rfl ?_
  refine je_iconst (pc := 2) (v := 0) d12069_2 rfl ?_
  refine ju_istore2 (pc := 3) (lv' := [some _, some _, some _]) d12069_3 rfl rfl ?_
  refine je_loop (σ := Unit) (S.1.2.1) (fun k xx => [some (.ref 253), some (.int (nI (cnN S l l' k))), some (.int (nI k))]) (fun k _ h' => fC (fun b => b = 262) h h' ∧ ∀ v, v < 8 → h'.2.1 262 v = croK k S l l' (h.2.1 262) v) (fun k xx h' hk e kk => ?_) (fun xx h' e => ?_) (0) () h (by omega) ⟨fC.rf, fun v _ => (croK_k (Nat.zero_le v)).symm⟩
  · obtain ⟨e1, e2⟩ := e
    have H1 := e1.St H
    have hS1 : mSt h'.2.1 S := hS.fr (fun b hb => e1.2 b (by omega)) (fun j hj => by rw [e1.2 254 (by omega)])
    refine je_iload2 (pc := 4) d12069_4 rfl ?_
    refine je_aload0 (pc := 5) d12069_5 rfl ?_
    refine ju_getr (pc := 6) (b := 254) d12069_6 jF_12_9 rfl (sK253 H1) (sR253_1 H1) ?_
    refine je_iconst (pc := 9) (v := 2) d12069_9 rfl ?_
    refine ju_iald (pc := 10) (jn := 2) d12069_10 (sK254 H1) (by first | assumption | exact jx_ok_dec (by decide)) (by decide) ?_
    refine ju_eqi (v := nI S.1.2.1) hS1.1.2.2.1 ?_
    refine jn_icge (pc := 11) (a := (k)) (b := (S.1.2.1)) 47 d12069_11 (by decide) (by omega) (by omega) (fun c11 => by exfalso; omega) (fun c11 => ?_)
    refine je_aload0 (pc := 14) d12069_14 rfl ?_
    refine je_iload2 (pc := 15) d12069_15 rfl ?_
    refine ju_callv (pc := 16) (as := [_]) d12069_16 jL_12_394 jM_Mo_sideOf rfl (by decide) (sK253 H1) rfl (by exact Nat.le_of_ble_eq_true rfl) (mo_side d (l := l') H1 hS1 wS (fun m hm => by rw [e1.2 255 (by omega)]; exact hl m hm) hk) (fun r16 h16 q16 => ?_)
    obtain ⟨rfl, e16⟩ := q16
    obtain rfl := e16.symm
    refine je_aload0 (pc := 19) d12069_19 rfl ?_
    refine ju_getr (pc := 20) (b := 291) d12069_20 jF_12_127 rfl (sK253 H1) (sR253_48 H1) ?_
    refine je_iload2 (pc := 23) d12069_23 rfl ?_
    refine ju_iald (pc := 24) (jn := (k)) d12069_24 (sK291 H1) (vp_in_nI (by omega) (by decide)) (nI_clamp (by omega)) ?_
    refine ju_eqi (v := sdM S l k) (by rw [e1.2 291 (by omega)]; exact hy k hk) ?_
    refine je_iceq (pc := 25) 41 d12069_25 (by decide) (fun c25 => ?_) (fun c25 => ?_)
    · refine ju_incN (pc := 41) (v := nI ((k) + 1)) (lv' := [some _, some _, some _]) d12069_41 rfl (nI_1 (k)) rfl ?_
      refine je_goto (pc := 44) 4 d12069_44 (by decide) ?_
      rw [show cnN S l l' k = cnN S l l' (k + 1) from (fa_cnt_no (decide_eq_false (p := ¬ sdM S l k = sdM S l' k) (fun z => z c25.symm))).symm]
      exact kk () _ ⟨e1, fun v hv => (e2 v hv).trans (croK_n c25.symm v)⟩
    · refine je_aload0 (pc := 28) d12069_28 rfl ?_
      refine ju_getr (pc := 29) (b := 262) d12069_29 jF_12_34 rfl (sK253 H1) (sR253_9 H1) ?_
      refine je_iload2 (pc := 32) d12069_32 rfl ?_
      refine je_dup2 (pc := 33) d12069_33 rfl rfl ?_
      refine ju_iald (pc := 34) (jn := (k)) d12069_34 (sK262 H1) (vp_in_nI (by omega) (by decide)) (nI_clamp (by omega)) ?_
      refine je_iconst (pc := 35) (v := 1) d12069_35 rfl ?_
      refine je_iadd (pc := 36) d12069_36 ?_
      refine ju_iast (pc := 37) (jn := (k)) d12069_37 (sK262 H1) (vp_in_nI (by omega) (by decide)) (nI_clamp (by omega)) ?_
      refine ju_incN (pc := 38) (v := nI ((cnN S l l' k) + 1)) (lv' := [some _, some _, some _]) d12069_38 rfl (nI_1 (cnN S l l' k)) rfl ?_
      refine ju_incN (pc := 41) (v := nI ((k) + 1)) (lv' := [some _, some _, some _]) d12069_41 rfl (nI_1 (k)) rfl ?_
      refine je_goto (pc := 44) 4 d12069_44 (by decide) ?_
      rw [show cnN S l l' k + 1 = cnN S l l' (k + 1) from (fa_cnt_yes (decide_eq_true (p := ¬ sdM S l k = sdM S l' k) (fun z => c25 z.symm))).symm]
      refine kk () _ ⟨e1.wI rfl, fun v hv => ?_⟩
      rw [wI_at, ← croK_y (fun z => c25 z.symm) v]
      unfold jx_up
      rw [e2 v hv, e2 k (by omega), croK_k (Nat.le_refl k)]
  · obtain ⟨e1, e2⟩ := e
    have H1 := e1.St H
    have hS1 : mSt h'.2.1 S := hS.fr (fun b hb => e1.2 b (by omega)) (fun j hj => by rw [e1.2 254 (by omega)])
    refine je_iload2 (pc := 4) d12069_4 rfl ?_
    refine je_aload0 (pc := 5) d12069_5 rfl ?_
    refine ju_getr (pc := 6) (b := 254) d12069_6 jF_12_9 rfl (sK253 H1) (sR253_1 H1) ?_
    refine je_iconst (pc := 9) (v := 2) d12069_9 rfl ?_
    refine ju_iald (pc := 10) (jn := 2) d12069_10 (sK254 H1) (by first | assumption | exact jx_ok_dec (by decide)) (by decide) ?_
    refine ju_eqi (v := nI S.1.2.1) hS1.1.2.2.1 ?_
    refine jn_icge (pc := 11) (a := ((S.1.2.1))) (b := (S.1.2.1)) 47 d12069_11 (by decide) (by omega) (by omega) (fun c11 => ?_) (fun c11 => by exfalso; omega)
    refine je_iload1 (pc := 47) d12069_47 rfl ?_
    refine je_iret (pc := 48) d12069_48 rfl ?_
    exact ⟨rfl, e1, e2⟩
