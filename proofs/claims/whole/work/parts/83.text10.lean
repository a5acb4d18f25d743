/-! words: the model -/
section LW
variable {d bc bs i pc : Nat} {lv : List (Option Value)} {st : List Value} {h : jx_H} {Q : Option Value → jx_H → Prop}
theorem jx_ldwS {p : Program} {l : Launch} {e : Env} {R : Room} {s : State} {m : MethodId} {args : Array Value} {below : List Frame} {meth : Method} {c : Code} {H : Heap} {locs : List Loc} {cells slots : Nat} {Z : State → Prop} {G : jx_G} {ls : Array Slot} (F : jx_Fx G i d p R s m args meth c) {x e0 : Nat} {tx : String} {bs0 : List Int32} (hq : jx_strs[e0]? = some (e0, jm_o i, x, tx, bs0)) (hd : decode (jm_b i) pc = .ok (.ldc_w x, 3))
    (k : W p l e R s m args below meth c H locs cells slots Z (F0 m (pc + 3) ls ((Value.ref (1000000 + e0) :: st).map (jx_cv G)))) : W p l e R s m args below meth c H locs cells slots Z (F0 m pc ls (st.map (jx_cv G))) := by
  have hs := F.2.1.2.2.2.2.2.2.2.1 _ (List.mem_of_getElem? hq)
  have ea : jx_ad G (1000000 + e0) = jg_x G e0 := by
    unfold jx_ad
    rw [if_neg (by omega), if_neg (by omega)]
    rw [Nat.add_sub_cancel_left]
  have k' : W p l e R s m args below meth c H locs cells slots Z (F0 m (pc + 3) ls (.ref (jx_ad G (1000000 + e0)) :: st.map (jx_cv G))) := k
  rw [ea] at k'
  intro T hT X
  obtain ⟨t, a1, b1⟩ := k' T hT X
  refine ⟨t, ?_, b1⟩
  have hexec := F.1.1
  have hdg : decode c.code pc = .ok (.ldc_w x, 3) := by rw [F.1.2.1]; exact hd
  obtain ⟨k, cf, i', a', hk, hcf, hcp, -, hr, hev'⟩ := Cond.stringRef_spec F.2.1.1 hs.1.1
  cases hs.1.2.symm.trans hev'
  obtain ⟨k', hk', he⟩ := X.warmed.alike.2.2 _ _ hk
  have hr' : k'.resolved[x]? = some (some (.string (jg_x G e0))) := by
    rcases X.warmed.entry hk hk' x with h | ⟨h, -⟩
    · rw [h]; exact hr
    · rw [hr] at h; cases h
  jvm_step X.here [hexec, hdg, ldc_w.wp_string (e := e) (s := T) (f := F0 m pc ls (st.map (jx_cv G))) X.here.top hk' (by rw [he]; exact hcf) hcp hr']
  exact a1
theorem je_ldwS {x e : Nat} {tx : String} {bs0 : List Int32} (hd : decode (jm_b i) pc = .ok (.ldc_w x, 3)) (hq : jx_strs[e]? = some (e, jm_o i, x, tx, bs0)) (k : jx_Ev d bc bs i (pc + 3) lv (.ref (1000000 + e) :: st) h Q) : jx_Ev d bc bs i pc lv (st) h Q := je_gen (fun F _ hl _ k => jx_ldwS F hq hd k) k
end LW
/-- the strings -/
def sqO (e : Nat) : Nat × Nat × String × List Int32 := (jx_strs.getD e (0, 0, 0, "", [])).2
abbrev wdO (e : Nat) : List Int32 := (sqO e).2.2.2
theorem sq_all : ∀ e, e < 44 → ((jx_strs.getD e (0, 0, 0, "", [])).1 = e ∧ 0 < (wdO e).length ∧ (wdO e).length < 16 ∧ ∀ b ∈ wdO e, ∃ c : Nat, c < 128 ∧ b = nI c ∧ isLt_ b = true) := by
  intro e he
  have hl : ∀ e, e < 44 → ((jx_strs.getD e (0, 0, 0, "", [])).1 = e ∧ 0 < (wdO e).length ∧ (wdO e).length < 16 ∧ ∀ b ∈ wdO e, b = nI b.toNatClampNeg ∧ b.toNatClampNeg < 128 ∧ isLt_ b = true) := by decide +kernel
  have := hl e he
  exact ⟨this.1, this.2.1, this.2.2.1, fun b hb => ⟨b.toNatClampNeg, (this.2.2.2 b hb).2.1, (this.2.2.2 b hb).1, (this.2.2.2 b hb).2.2⟩⟩
theorem sq_len : jx_strs.length = 44 := by decide +kernel
theorem sq_q {e : Nat} (he : e < 44) : jx_strs[e]? = some (e, sqO e) := by
  have h1 := (sq_all e he).1
  unfold sqO
  rw [List.getD_eq_getElem?_getD] at h1 ⊢
  cases hx : jx_strs[e]? with
  | none => exact absurd (List.getElem?_eq_none_iff.mp hx) (by rw [sq_len]; omega)
  | some q =>
    rw [hx] at h1
    show some q = some (e, q.2)
    have h2 : q.1 = e := h1
    rw [← h2]
theorem wd_c {e k : Nat} (he : e < 44) (hk : k < (wdO e).length) : ∃ c : Nat, c < 128 ∧ (wdO e).getD k 0 = nI c ∧ isLt_ ((wdO e).getD k 0) = true := by
  rw [List.getD_eq_getElem?_getD, List.getElem?_eq_getElem hk]
  exact (sq_all e he).2.2.2 _ (List.getElem_mem hk)
def mtM (T : Nat → Int32) (p : Nat) (w : List Int32) : Nat → Bool
  | 0 => true
  | n + 1 => mtM T p w n && decide (T (p + n) = w.getD n 0)
theorem mtM_s {T : Nat → Int32} {p n : Nat} {w : List Int32} : mtM T p w (n + 1) = true ↔ (mtM T p w n = true ∧ T (p + n) = w.getD n 0) := by
  show (mtM T p w n && decide (T (p + n) = w.getD n 0)) = true ↔ _
  rw [Bool.and_eq_true, decide_eq_true_eq]
theorem mtM_a {T : Nat → Int32} {p : Nat} {w : List Int32} : ∀ {n : Nat}, mtM T p w n = true ↔ ∀ j, j < n → T (p + j) = w.getD j 0
  | 0 => ⟨fun _ j hj => absurd hj (Nat.not_lt_zero j), fun _ => rfl⟩
  | n + 1 => by
    rw [mtM_s, mtM_a]
    refine ⟨fun z j hj => ?_, fun z => ⟨fun j hj => z j (by omega), z n (by omega)⟩⟩
    by_cases y : j = n
    · rw [y]; exact z.2
    · exact z.1 j (by omega)
/-- as the model has it -/
theorem stM {T U : Nat → Int32} {N p e : Nat} (he : e < 44) (hu : ∀ j, j < N → isLt_ (U j) = isLt_ (T j)) : stW T N p (wdO e) ↔ (spF (fun j => isLt_ (U j)) N p - p = (wdO e).length ∧ ∀ k, k < (wdO e).length → T (p + k) = (wdO e).getD k 0) := by
  have hl := (sq_all e he).2.1
  have cg : ∀ t q, N - q ≤ t → spF (fun j => isLt_ (U j)) N q = spF (fun j => isLt_ (T j)) N q := by
    intro t
    induction t with
    | zero => intro q hq; rw [sp_st (fun z => by omega), sp_st (fun z => by omega)]
    | succ t ih =>
      intro q hq
      by_cases z : q < N
      · by_cases y : isLt_ (T q) = true
        · rw [sp_go z (by rw [hu q z]; exact y), sp_go z y]; exact ih _ (by omega)
        · rw [sp_st (fun x => y (by rw [← hu q z]; exact x.2)), sp_st (fun x => y x.2)]
      · rw [sp_st (fun x => z x.1), sp_st (fun x => z x.1)]
  rw [cg _ p (Nat.le_refl _)]
  have E : ∀ (z : p < N ∧ isLt_ (T p) = true), tkE T N p = spF (fun j => isLt_ (T j)) N p := fun z => by
    unfold tkE
    rw [if_neg (by omega), if_neg (dgx_lt z.2), if_pos z.2, sp_go z.1 z.2]
  constructor
  · intro h
    exact ⟨by rw [← E h.1]; exact h.2.1, h.2.2⟩
  · intro h
    have z : p < N ∧ isLt_ (T p) = true := by
      have := sp_in (c := fun j => isLt_ (T j)) (N := N) (p := p) (k := 0) (by omega)
      exact this
    exact ⟨z, by rw [E z]; exact h.1, h.2⟩
set_option maxHeartbeats 4000000 in
theorem t_Mo_stood (d : Nat) {bc bs : Nat} {h : jx_H} {N p e : Nat} (he : e < 44) (H : jx_St h) (ht : h.2.1 253 27 = nI N) (hp : h.2.1 253 28 = nI p) (hN : N ≤ 400) (hpN : p ≤ N) (hB : ∀ j, j < N → (h.2.1 280 j).toInt8.toInt32 = h.2.1 280 j) : jx_Tr (d + 5) bc bs 12011 [.ref 253, .ref (1000000 + e)] h (fun r h' => r = some (.int (b2 (stW (mT h) N p (wdO e)))) ∧ h' = h) := by
  refine jx_tr jM_Mo_stood rfl rfl (lv := [some (.ref 253), some (.ref (1000000 + e)), none, none, none]) rfl ?_
  have wl := (sq_all e he).2.2.1
  have hu : ∀ j, j < N → isLt_ (h.2.1 280 j) = isLt_ (mT h j) := fun j hj => by_lt (hB j hj)
  have so := sp_out (c := fun j => isLt_ (h.2.1 280 j)) (N := N) (p := p)
  have sl := sp_le (c := fun j => isLt_ (h.2.1 280 j)) (N := N) (p := p)
  have sn := sp_N (c := fun j => isLt_ (h.2.1 280 j)) (N := N) (p := p) hpN
  have K41 : jx_Ev (d + 5) bc bs 12011 41 [some (.ref 253), some (.ref (1000000 + e)), some (.int (nI (spF (fun j => isLt_ (h.2.1 280 j)) N p))), none, none] [] h (fun r h' => r = some (.int (b2 (stW (mT h) N p (wdO e)))) ∧ h' = h) := by
    refine je_iload2 (pc := 41) d12011_41 rfl ?_
    refine je_aload0 (pc := 42) d12011_42 rfl ?_
    refine ju_geti (pc := 43) d12011_43 jF_12_217 rfl (sK253 H) ?_
    refine ju_eqi (v := nI p) hp ?_
    refine je_isub (pc := 46) d12011_46 ?_
    refine ju_eqi (v := nI ((spF (fun j => isLt_ (h.2.1 280 j)) N p) - (p))) (pk_sub (a := (spF (fun j => isLt_ (h.2.1 280 j)) N p)) (b := (p)) (by omega)) ?_
    refine je_aload1 (pc := 47) d12011_47 rfl ?_
    refine je_callS (pc := 48) (as := []) d12011_48 jL_12_228 jM_Str_length rfl rfl (sq_q he) rfl (Nat.le_of_ble_eq_true rfl) (t_Str_length (d + 2) (sq_q he)) (fun r48 h48 q48 => ?_)
    obtain ⟨rfl, e48⟩ := q48
    obtain rfl := e48.symm
    refine ju_tern2 (pc := 51) (V := (b2 (spF (fun j => isLt_ (h.2.1 280 j)) N p - p = (wdO e).length))) 59 ?_ (fun jn51 => ?_)
    · refine ju_istore3 (pc := 59) (lv' := [some _, some _, some _, some _, none]) d12011_59 rfl rfl ?_
      refine je_iconst (pc := 60) (v := 0) d12011_60 rfl ?_
      refine ju_istore (pc := 61) (lv' := [some _, some _, some _, some _, some _]) d12011_61 rfl rfl ?_
      have e0 : b2 (spF (fun j => isLt_ (h.2.1 280 j)) N p - p = (wdO e).length) = b2 ((spF (fun j => isLt_ (h.2.1 280 j)) N p - p = (wdO e).length) ∧ mtM (mT h) p (wdO e) 0 = true) := b2_c ⟨fun z => ⟨z, rfl⟩, fun z => z.1⟩
      rw [e0]
      refine je_loop (σ := Unit) ((wdO e).length) (fun k xx => [some (.ref 253), some (.ref (1000000 + e)), some (.int (nI (spF (fun j => isLt_ (h.2.1 280 j)) N p))), some (.int (b2 ((spF (fun j => isLt_ (h.2.1 280 j)) N p - p = (wdO e).length) ∧ mtM (mT h) p (wdO e) k = true))), some (.int (nI k))]) (fun k _ h' => h' = h) (fun k xx h' hk eJ kk => ?_) (fun xx h' eJ => ?_) (0) () h (by omega) rfl
      · obtain rfl := eJ.symm
        refine je_iload (pc := 63) d12011_63 rfl ?_
        refine je_aload1 (pc := 65) d12011_65 rfl ?_
        refine je_callS (pc := 66) (as := []) d12011_66 jL_12_228 jM_Str_length rfl rfl (sq_q he) rfl (Nat.le_of_ble_eq_true rfl) (t_Str_length (d + 2) (sq_q he)) (fun r66 h66 q66 => ?_)
        obtain ⟨rfl, e66⟩ := q66
        obtain rfl := e66.symm
        refine jn_icge (pc := 69) (a := (k)) (b := ((wdO e).length)) 109 d12011_69 (by decide) (by omega) (by omega) (fun c69 => by exfalso; omega) (fun c69 => ?_)
        refine je_iload3 (pc := 72) d12011_72 rfl ?_
        refine jb_ifeq (pc := 73) 109 d12011_73 (by decide) (fun c73 => ?_) (fun c73 => ?_)
        · refine je_iload3 (pc := 109) d12011_109 rfl ?_
          refine je_zret (pc := 110) d12011_110 rfl (b2_01 _) ?_
          exact ⟨by rw [b2_f c73, b2_f (fun z => c73 ⟨((stM he hu).mp z).1, mtM_a.mpr (fun j hj => ((stM he hu).mp z).2 j (by omega))⟩)], rfl⟩
        · have bx := sp_N (c := fun j => isLt_ (h.2.1 280 j)) (N := N) (p := p) hpN
          have pk : p + k < N := by have := c73.1; omega
          refine je_aload0 (pc := 76) d12011_76 rfl ?_
          refine ju_getr (pc := 77) (b := 280) d12011_77 jF_12_92 rfl (sK253 H) (sR253_37 H) ?_
          refine je_aload0 (pc := 80) d12011_80 rfl ?_
          refine ju_geti (pc := 81) d12011_81 jF_12_217 rfl (sK253 H) ?_
          refine ju_eqi (v := nI p) hp ?_
          refine je_iload (pc := 84) d12011_84 rfl ?_
          refine je_iadd (pc := 86) d12011_86 ?_
          refine ju_eqi (v := nI ((p) + (k))) (nI_add (p) (k)) ?_
          refine ju_bald (pc := 87) (jn := ((p) + (k))) d12011_87 (sK280 H) (vp_in_nI (by omega) (by decide)) (nI_clamp (by omega)) ?_
          refine je_aload1 (pc := 88) d12011_88 rfl ?_
          refine je_iload (pc := 89) d12011_89 rfl ?_
          refine je_callS (pc := 91) (as := [_]) d12011_91 jL_12_233 jM_Str_charAt rfl rfl (sq_q he) rfl (Nat.le_of_ble_eq_true rfl) (t_Str_charAt d (sq_q he) (k := k) hk) (fun r91 h91 q91 => ?_)
          obtain ⟨rfl, e91⟩ := q91
          obtain rfl := e91.symm
          refine ju_tern2 (pc := 94) (V := (b2 ((spF (fun j => isLt_ (h.2.1 280 j)) N p - p = (wdO e).length) ∧ mtM (mT h) p (wdO e) (k + 1) = true))) 102 ?_ (fun jn94 => ?_)
          · refine ju_istore3 (pc := 102) (lv' := [some _, some _, some _, some _, some _]) d12011_102 rfl rfl ?_
            refine ju_incN (pc := 103) (v := nI ((k) + 1)) (lv' := [some _, some _, some _, some _, some _]) d12011_103 rfl (nI_1 (k)) rfl ?_
            refine je_goto (pc := 106) 63 d12011_106 (by decide) ?_
            refine kk () _ rfl
          · refine je_icne (pc := 94) 101 d12011_94 (by decide) (fun c94 => ?_) (fun c94 => ?_)
            · refine je_iconst (pc := 101) (v := 0) d12011_101 rfl ?_
              refine ju_eqi (v := (b2 ((spF (fun j => isLt_ (h.2.1 280 j)) N p - p = (wdO e).length) ∧ mtM (mT h) p (wdO e) (k + 1) = true))) (b2_f (fun z => c94 (by
                    obtain ⟨cc, c1, c2, c3⟩ := wd_c he hk
                    have z1 := (mtM_s.mp z.2).2
                    show h.2.1 280 (p + k) = (wdO e).getD k 0
                    rw [c2] at z1 ⊢
                    exact (by_eq (hB _ pk) c1).mpr z1))).symm ?_
              exact jn94
            · refine je_iconst (pc := 97) (v := 1) d12011_97 rfl ?_
              refine je_goto (pc := 98) 102 d12011_98 (by decide) ?_
              refine ju_eqi (v := (b2 ((spF (fun j => isLt_ (h.2.1 280 j)) N p - p = (wdO e).length) ∧ mtM (mT h) p (wdO e) (k + 1) = true))) (b2_t (show ((spF (fun j => isLt_ (h.2.1 280 j)) N p - p = (wdO e).length) ∧ mtM (mT h) p (wdO e) (k + 1) = true) from ⟨c73.1, mtM_s.mpr ⟨c73.2, by
                      obtain ⟨cc, c1, c2, c3⟩ := wd_c he hk
                      have z1 : h.2.1 280 (p + k) = (wdO e).getD k 0 := c94
                      show h.2.1 280 (p + k) &&& 255 = _
                      rw [c2] at z1 ⊢
                      exact (by_eq (hB _ pk) c1).mp z1⟩⟩)).symm ?_
              exact jn94
      · obtain rfl := eJ.symm
        refine je_iload (pc := 63) d12011_63 rfl ?_
        refine je_aload1 (pc := 65) d12011_65 rfl ?_
        refine je_callS (pc := 66) (as := []) d12011_66 jL_12_228 jM_Str_length rfl rfl (sq_q he) rfl (Nat.le_of_ble_eq_true rfl) (t_Str_length (d + 2) (sq_q he)) (fun r66 h66 q66 => ?_)
        obtain ⟨rfl, e66⟩ := q66
        obtain rfl := e66.symm
        refine jn_icge (pc := 69) (a := (((wdO e).length))) (b := ((wdO e).length)) 109 d12011_69 (by decide) (by omega) (by omega) (fun c69 => ?_) (fun c69 => by exfalso; omega)
        refine je_iload3 (pc := 109) d12011_109 rfl ?_
        refine je_zret (pc := 110) d12011_110 rfl (b2_01 _) ?_
        exact ⟨by rw [b2_c (show ((spF (fun j => isLt_ (h.2.1 280 j)) N p - p = (wdO e).length) ∧ mtM (mT h) p (wdO e) (wdO e).length = true) ↔ stW (mT h) N p (wdO e) from ⟨fun z => (stM he hu).mpr ⟨z.1, mtM_a.mp z.2⟩, fun z => ⟨((stM he hu).mp z).1, mtM_a.mpr ((stM he hu).mp z).2⟩⟩)], rfl⟩
    · refine jn_icne (pc := 51) (a := ((spF (fun j => isLt_ (h.2.1 280 j)) N p) - (p))) (b := ((wdO e).length)) 58 d12011_51 (by decide) (by omega) (by omega) (fun c51 => ?_) (fun c51 => ?_)
      · refine je_iconst (pc := 58) (v := 0) d12011_58 rfl ?_
        refine ju_eqi (v := (b2 (spF (fun j => isLt_ (h.2.1 280 j)) N p - p = (wdO e).length))) (b2_f (fun z => c51 z)).symm ?_
        exact jn51
      · refine je_iconst (pc := 54) (v := 1) d12011_54 rfl ?_
        refine je_goto (pc := 55) 59 d12011_55 (by decide) ?_
        refine ju_eqi (v := (b2 (spF (fun j => isLt_ (h.2.1 280 j)) N p - p = (wdO e).length))) (b2_t c51).symm ?_
        exact jn51
  refine je_aload0 (pc := 0) d12011_0 rfl ?_
  refine ju_geti (pc := 1) d12011_1 jF_12_217 rfl (sK253 H) ?_
  refine ju_eqi (v := nI p) hp ?_
  refine ju_istore2 (pc := 4) (lv' := [some _, some _, some _, none, none]) d12011_4 rfl rfl ?_
  refine je_loop (σ := Unit) (spF (fun j => isLt_ (h.2.1 280 j)) N p - p) (fun k xx => [some (.ref 253), some (.ref (1000000 + e)), some (.int (nI (p + k))), none, none]) (fun k _ h' => h' = h) (fun k xx h' hk eJ kk => ?_) (fun xx h' eJ => ?_) (0) () h (by omega) rfl
  · obtain rfl := eJ.symm
    have si := sp_in (c := fun j => isLt_ (h.2.1 280 j)) (N := N) (p := p) (k := k) (by omega)
    refine je_iload2 (pc := 5) d12011_5 rfl ?_
    refine je_aload0 (pc := 6) d12011_6 rfl ?_
    refine ju_geti (pc := 7) d12011_7 jF_12_185 rfl (sK253 H) ?_
    refine ju_eqi (v := nI N) ht ?_
    refine jn_icge (pc := 10) (a := (p + k)) (b := (N)) 41 d12011_10 (by decide) (by omega) (by omega) (fun c10 => by exfalso; omega) (fun c10 => ?_)
    refine je_aload0 (pc := 13) d12011_13 rfl ?_
    refine ju_getr (pc := 14) (b := 280) d12011_14 jF_12_92 rfl (sK253 H) (sR253_37 H) ?_
    refine je_iload2 (pc := 17) d12011_17 rfl ?_
    refine ju_bald (pc := 18) (jn := (p + k)) d12011_18 (sK280 H) (vp_in_nI (by omega) (by decide)) (nI_clamp (by omega)) ?_
    refine je_bipush (pc := 19) (v := 97) d12011_19 rfl ?_
    refine je_iclt (pc := 21) 41 d12011_21 (by decide) (fun c21 => absurd c21 (of_decide_eq_true si.2).1) (fun c21 => ?_)
    refine je_aload0 (pc := 24) d12011_24 rfl ?_
    refine ju_getr (pc := 25) (b := 280) d12011_25 jF_12_92 rfl (sK253 H) (sR253_37 H) ?_
    refine je_iload2 (pc := 28) d12011_28 rfl ?_
    refine ju_bald (pc := 29) (jn := (p + k)) d12011_29 (sK280 H) (vp_in_nI (by omega) (by decide)) (nI_clamp (by omega)) ?_
    refine je_bipush (pc := 30) (v := 122) d12011_30 rfl ?_
    refine je_icgt (pc := 32) 41 d12011_32 (by decide) (fun c32 => absurd c32 (of_decide_eq_true si.2).2) (fun c32 => ?_)
    refine ju_incN (pc := 35) (v := nI ((p + k) + 1)) (lv' := [some _, some _, some _, none, none]) d12011_35 rfl (nI_1 (p + k)) rfl ?_
    refine je_goto (pc := 38) 5 d12011_38 (by decide) ?_
    refine kk () _ rfl
  · obtain rfl := eJ.symm
    rw [show p + (spF (fun j => isLt_ (h.2.1 280 j)) N p - p) = spF (fun j => isLt_ (h.2.1 280 j)) N p by omega]
    refine je_iload2 (pc := 5) d12011_5 rfl ?_
    refine je_aload0 (pc := 6) d12011_6 rfl ?_
    refine ju_geti (pc := 7) d12011_7 jF_12_185 rfl (sK253 H) ?_
    refine ju_eqi (v := nI N) ht ?_
    refine jn_icge (pc := 10) (a := (spF (fun j => isLt_ (h.2.1 280 j)) N p)) (b := (N)) 41 d12011_10 (by decide) (by omega) (by omega) (fun c10 => ?_) (fun c10 => ?_)
    · exact K41
    · refine je_aload0 (pc := 13) d12011_13 rfl ?_
      refine ju_getr (pc := 14) (b := 280) d12011_14 jF_12_92 rfl (sK253 H) (sR253_37 H) ?_
      refine je_iload2 (pc := 17) d12011_17 rfl ?_
      refine ju_bald (pc := 18) (jn := (spF (fun j => isLt_ (h.2.1 280 j)) N p)) d12011_18 (sK280 H) (vp_in_nI (by omega) (by decide)) (nI_clamp (by omega)) ?_
      refine je_bipush (pc := 19) (v := 97) d12011_19 rfl ?_
      refine je_iclt (pc := 21) 41 d12011_21 (by decide) (fun c21 => ?_) (fun c21 => ?_)
      · exact K41
      · refine je_aload0 (pc := 24) d12011_24 rfl ?_
        refine ju_getr (pc := 25) (b := 280) d12011_25 jF_12_92 rfl (sK253 H) (sR253_37 H) ?_
        refine je_iload2 (pc := 28) d12011_28 rfl ?_
        refine ju_bald (pc := 29) (jn := (spF (fun j => isLt_ (h.2.1 280 j)) N p)) d12011_29 (sK280 H) (vp_in_nI (by omega) (by decide)) (nI_clamp (by omega)) ?_
        refine je_bipush (pc := 30) (v := 122) d12011_30 rfl ?_
        refine je_icgt (pc := 32) 41 d12011_32 (by decide) (fun c32 => ?_) (fun c32 => ?_)
        · exact K41
        · exact absurd ⟨c10, decide_eq_true ⟨c21, c32⟩⟩ so
