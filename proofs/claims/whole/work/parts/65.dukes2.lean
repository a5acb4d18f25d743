/-! dukes: the class -/
theorem chV_n {k : Nat} (h : ¬ k = 0) : chV k = nI (k - 1) := by
  obtain ⟨e, rfl⟩ : ∃ e, k = e + 1 := ⟨k - 1, by omega⟩
  rfl
theorem chV_lt {k n : Nat} (h : k < n + 1) (hn : n < 1000) : chV k < nI n ↔ True := by
  refine ⟨fun _ => trivial, fun _ => ?_⟩
  match k with
  | 0 => rw [show chV 0 = -1 from rfl, fa_lt, nI_toInt (by omega)]; show (-1 : Int) < n; omega
  | e + 1 => exact nI_lt (by omega) (by omega)
theorem chV_ge {n : Nat} (hn : n < 1000) : ¬ chV (n + 1) < nI n := nI_nlt (Nat.le_refl n) (by omega)
theorem chV_i {k : Nat} (h : k < 1000) : chV k + 1 = chV (k + 1) := by
  match k with
  | 0 => decide
  | e + 1 => exact nI_1 e
theorem bx_t {B y : Int} (h1 : -1000 ≤ B) (h2 : B ≤ 1000) (h3 : -1000 ≤ y) (h4 : y ≤ 1000) (c : iZ B < iZ y) : iZ y = iZ (imx B y) := by rw [(imx_i B y).1 ((iZ_lt h1 h2 h3 h4).mp c)]
theorem bx_f {B y : Int} (h1 : -1000 ≤ B) (h2 : B ≤ 1000) (h3 : -1000 ≤ y) (h4 : y ≤ 1000) (c : ¬ iZ B < iZ y) : iZ B = iZ (imx B y) := by rw [(imx_i B y).2 (fun z => c ((iZ_lt h1 h2 h3 h4).mpr z))]
theorem bn_t {B y : Int} (h1 : -1000 ≤ B) (h2 : B ≤ 1000) (h3 : -1000 ≤ y) (h4 : y ≤ 1000) (c : iZ B < iZ y) : iZ (-y) = iZ (-(imx B y)) := by rw [(imx_i B y).1 ((iZ_lt h1 h2 h3 h4).mp c)]
theorem bn_u {B x : Int} (h1 : -1000 ≤ B) (h2 : B ≤ 1000) (h3 : -1000 ≤ -x) (h4 : -x ≤ 1000) (c : iZ B < iZ (-x)) : iZ x = iZ (-(imx B (-x))) := by rw [(imx_i B (-x)).1 ((iZ_lt h1 h2 h3 h4).mp c), Int.neg_neg]
theorem bn_f {B y : Int} (h1 : -1000 ≤ B) (h2 : B ≤ 1000) (h3 : -1000 ≤ y) (h4 : y ≤ 1000) (c : ¬ iZ B < iZ y) : iZ (-B) = iZ (-(imx B y)) := by rw [(imx_i B y).2 (fun z => c ((iZ_lt h1 h2 h3 h4).mpr z))]
theorem mxZ {B y : Int} (h1 : -1000 ≤ B) (h2 : B ≤ 1000) (h3 : -1000 ≤ y) (h4 : y ≤ 1000) : (if iZ B < iZ y then iZ y else iZ B) = iZ (imx B y) := by
  by_cases c : B < y
  · rw [if_pos ((iZ_lt h1 h2 h3 h4).mpr c), (imx_i B y).1 c]
  · rw [if_neg (fun z => c ((iZ_lt h1 h2 h3 h4).mp z)), (imx_i B y).2 c]
theorem mnZ {B y : Int} (h1 : -1000 ≤ B) (h2 : B ≤ 1000) (h3 : -1000 ≤ y) (h4 : y ≤ 1000) : (if iZ (-y) < iZ (-B) then iZ (-y) else iZ (-B)) = iZ (-(imx B y)) := by
  by_cases c : B < y
  · rw [if_pos ((iZ_lt (by omega) (by omega) (by omega) (by omega)).mpr (by omega)), (imx_i B y).1 c]
  · rw [if_neg (fun z => c (by have := (iZ_lt (by omega) (by omega) (by omega) (by omega)).mp z; omega)), (imx_i B y).2 c]
theorem GJ.w {f : Nat → Int} {ok : Nat → Bool} {lo hi B : Int} {nv c : Nat} {rt : Prop} {bm : Int32} (hl : -8 ≤ lo) (hw : lo < hi ∨ nv = 0) (q : GJ f ok lo hi nv rt c B bm) : imx lo B < hi ∨ nv = 0 := by
  by_cases n : nv = 0
  · exact Or.inr n
  · rcases q with ⟨-, rfl, -⟩ | ⟨-, -, -, -, e, -⟩
    · rw [imx_a hl]; exact hw
    · exact Or.inl (e n).1
set_option maxHeartbeats 16000000 in
theorem co_gain {S : MS} {R : Option MR} (wS : wfS S) (h0 : 0 < S.1.1) (hmi : S.1.1 ≤ 10) : ∀ (rem : Nat) (d : Nat) {bc bs : Nat} {h : jx_H} {L : ML} {nn nl g : Nat} {lo hi : Int} {e : Bool}, jx_St h → cLaw h S R → g + rem ≤ 4 → rL h.2.1 (82 + 5 * g) L → L.2.2.2.2.2 = nI nn → nn + rem < 998 → wfL nl S.1.1 S.1.2.1 L → nl + rem < 2000 → e = decide (g % 2 = 0) → (-8 ≤ lo ∧ lo ≤ 8) → (-8 ≤ hi ∧ hi ≤ 8) → (lo < hi ∨ S.1.2.1 = 0) → jx_Tr (d + rem + 6) bc bs 10005 [.ref 79, .int (nI g), .int (nI (g + rem)), .int (iZ lo), .int (iZ hi)] h (fun r' h' => ∃ x : Int, r' = some (.int (iZ x)) ∧ AB (gnF S R rem e L) lo hi x ∧ (-8 ≤ x ∧ x ≤ 8) ∧ (S.1.2.1 = 0 → x = 0) ∧ fC (fun b => b = 65 ∨ b = 79 ∨ 82 + 5 * (g + 1) ≤ b ∧ b ≤ 106) h h' ∧ ∀ k, rem = k + 1 → g = 0 ∧ lo = -(S.1.2.1 : Int) ∧ hi = (S.1.2.1 : Int) → h'.2.1 79 3 = chV (raF (fun c => sgn e * gnF S R k (!e) (dkL S R (wyI e) L c)) (okC_ L) (S.1.1 + 1)))
  | 0, d, bc, bs, h, L, nn, nl, g, lo, hi, e, H, C, hg, hL, hN, hn, wl, hnl, he, hl, hh, hw => by
    show jx_Tr (d + 6) bc bs 10005 _ h _
    obtain ⟨s, c1, c2, c3, c4, -⟩ := id C
    have w8 := wS.2.1
    have p0 := pop_v S L.1 0 w8
    have p1 := pop_v S L.1 1 w8
    refine jx_tr jM_Co_gain rfl rfl (lv := [some (.ref 79), some (.int (nI g)), some (.int (nI (g + 0))), some (.int (iZ lo)), some (.int (iZ hi)), none, none, none, none, none, none, none, none]) rfl ?_
    refine je_iload1 (pc := 0) d10005_0 rfl ?_
    refine je_iload2 (pc := 1) d10005_1 rfl ?_
    refine jn_icge (pc := 2) (a := (g)) (b := (g + 0)) 10 d10005_2 (by decide) (by omega) (by omega) (fun c2 => ?_) (fun c2 => by exfalso; omega)
    refine je_aload0 (pc := 10) d10005_10 rfl ?_
    refine ju_getr (pc := 11) (b := 51) d10005_11 jF_10_21 rfl (sK79 H) (sR79_0 H) ?_
    refine ju_getr (pc := 14) (b := s) d10005_14 jF_10_34 rfl (sK51 H) c1 ?_
    refine je_aload0 (pc := 17) d10005_17 rfl ?_
    refine ju_getr (pc := 18) (b := 80) d10005_18 jF_10_11 rfl (sK79 H) (sR79_1 H) ?_
    refine je_iload1 (pc := 21) d10005_21 rfl ?_
    refine je_aald (pc := 22) d10005_22 (by decide) (sK80 H) (vp_in_nI (by omega) (by decide)) (v := .ref (82 + 5 * g)) (r80 H (by omega)) ?_
    refine ju_callv (pc := 23) (as := [_]) d10005_23 jL_10_73 jM_St_sidesOf rfl (by decide) c3.1.1 rfl (by exact Nat.le_of_ble_eq_true rfl) (t_St_sidesOf (d + 4) (S := S) (l := L.1) c3 (lA_La H (ln_A (by omega))) c4 wS hL.1) (fun r23 h23 q23 => ?_)
    obtain ⟨rfl, e23⟩ := q23
    obtain rfl := e23.symm
    refine ju_istore (pc := 26) (lv' := [some _, some _, some _, some _, some _, some _, none, none, none, none, none, none, none]) d10005_26 rfl rfl ?_
    refine je_iload (pc := 28) d10005_28 rfl ?_
    refine ju_callsN (pc := 30) (as := [_]) d10005_30 jL_10_77 jM_Db_westIn rfl rfl (by exact Nat.le_of_ble_eq_true rfl) (t_Db_westIn (d + 4) _) (fun r30 h30 q30 => ?_)
    obtain ⟨rfl, e30⟩ := q30
    obtain rfl := e30.symm
    refine ju_eqi (v := nI (onN S L.1 0 S.1.2.1)) (west_ok S L.1 w8) ?_
    refine ju_calls (pc := 33) (as := [_]) d10005_33 jL_10_81 jM_Int_bitCount rfl rfl (by exact Nat.le_of_ble_eq_true rfl) (t_Int_bitCount (d + 4) _) (fun r33 h33 q33 => ?_)
    obtain ⟨rfl, e33⟩ := q33
    obtain rfl := e33.symm
    refine ju_eqi (v := nI (pop 10 (onN S L.1 0 S.1.2.1))) (bcF_ok _ (Nat.lt_of_lt_of_le (onN_lt S L.1 0) (Nat.le_trans (Nat.pow_le_pow_right (n := 2) (by decide) w8) (by decide)))) ?_
    refine je_iload (pc := 36) d10005_36 rfl ?_
    refine ju_callsN (pc := 38) (as := [_]) d10005_38 jL_10_86 jM_Db_eastIn rfl rfl (by exact Nat.le_of_ble_eq_true rfl) (t_Db_eastIn (d + 4) _) (fun r38 h38 q38 => ?_)
    obtain ⟨rfl, e38⟩ := q38
    obtain rfl := e38.symm
    refine ju_eqi (v := nI (onN S L.1 1 S.1.2.1)) (east_ok S L.1 w8) ?_
    refine ju_calls (pc := 41) (as := [_]) d10005_41 jL_10_81 jM_Int_bitCount rfl rfl (by exact Nat.le_of_ble_eq_true rfl) (t_Int_bitCount (d + 4) _) (fun r41 h41 q41 => ?_)
    obtain ⟨rfl, e41⟩ := q41
    obtain rfl := e41.symm
    refine ju_eqi (v := nI (pop 10 (onN S L.1 1 S.1.2.1))) (bcF_ok _ (Nat.lt_of_lt_of_le (onN_lt S L.1 1) (Nat.le_trans (Nat.pow_le_pow_right (n := 2) (by decide) w8) (by decide)))) ?_
    refine je_isub (pc := 44) d10005_44 ?_
    refine ju_eqi (v := iZ (lfZ S L.1)) (iZ_sub (by omega) (by omega)) ?_
    refine je_iret (pc := 45) d10005_45 rfl ?_
    have b := lfZ_bd S L.1 w8
    exact ⟨lfZ S L.1, rfl, AB.rf, by omega, fun z => by omega, fC.rf, fun k hk => by cases hk⟩
  | rem + 1, d, bc, bs, h, L, nn, nl, g, lo, hi, e, H, C, hg, hL, hN, hn, wl, hnl, he, hl, hh, hw => by
    show jx_Tr (d + rem + 7) bc bs 10005 _ h _
    have ih := co_gain (S := S) (R := R) wS h0 hmi rem
    have w8 := wS.2.1
    have hf : ∀ b : Bool, ∀ c : Nat, -(S.1.2.1 : Int) ≤ sgn b * gnF S R rem (!b) (dkL S R (wyI b) L c) ∧ sgn b * gnF S R rem (!b) (dkL S R (wyI b) L c) ≤ S.1.2.1 := fun b c => sgn_bd (gn_bd w8)
    cases e
    · have hg2 : ¬ g % 2 = 0 := of_decide_eq_false he.symm
      have hl' : -8 ≤ -hi ∧ -hi ≤ 8 := by omega
      have hh' : -8 ≤ -lo ∧ -lo ≤ 8 := by omega
      have hw' : -hi < -lo ∨ S.1.2.1 = 0 := by omega
      refine jx_tr jM_Co_gain rfl rfl (lv := [some (.ref 79), some (.int (nI g)), some (.int (nI (g + (rem + 1)))), some (.int (iZ lo)), some (.int (iZ hi)), none, none, none, none, none, none, none, none]) rfl ?_
      refine je_iload1 (pc := 0) d10005_0 rfl ?_
      refine je_iload2 (pc := 1) d10005_1 rfl ?_
      refine jn_icge (pc := 2) (a := (g)) (b := (g + (rem + 1))) 10 d10005_2 (by decide) (by omega) (by omega) (fun c2 => by exfalso; omega) (fun c2 => ?_)
      refine je_iload1 (pc := 5) d10005_5 rfl ?_
      refine je_iconst (pc := 6) (v := 4) d10005_6 rfl ?_
      refine jn_iclt (pc := 7) (a := (g)) (b := 4) 46 d10005_7 (by decide) (by omega) (by omega) (fun c7 => ?_) (fun c7 => by exfalso; omega)
      refine je_iload1 (pc := 46) d10005_46 rfl ?_
      refine je_iconst (pc := 47) (v := 2) d10005_47 rfl ?_
      refine je_irem (pc := 48) d10005_48 (by decide) ?_
      refine ju_eqi (v := nI (g % 2)) (pk_rem (d := 2) (by omega) (by decide) (by decide)) ?_
      refine jn_ifne (pc := 49) (a := (g % 2)) 56 d10005_49 (by decide) (by omega) (fun c49 => ?_) (fun c49 => by exfalso; omega)
      refine je_iconst (pc := 56) (v := -1) d10005_56 rfl ?_
      refine ju_istore (pc := 57) (lv' := [some _, some _, some _, some _, some _, some _, none, none, none, none, none, none, none]) d10005_57 rfl rfl ?_
      refine je_bipush (pc := 59) (v := -100) d10005_59 rfl ?_
      refine je_iload (pc := 61) d10005_61 rfl ?_
      refine je_imul (pc := 63) d10005_63 ?_
      refine ju_eqi (v := iZ (-(-100))) (by decide) ?_
      refine ju_istore (pc := 64) (lv' := [some _, some _, some _, some _, some _, some _, some _, none, none, none, none, none, none]) d10005_64 rfl rfl ?_
      refine je_iconst (pc := 66) (v := -1) d10005_66 rfl ?_
      refine ju_istore (pc := 67) (lv' := [some _, some _, some _, some _, some _, some _, some _, some _, none, none, none, none, none]) d10005_67 rfl rfl ?_
      refine je_iload3 (pc := 69) d10005_69 rfl ?_
      refine ju_istore (pc := 70) (lv' := [some _, some _, some _, some _, some _, some _, some _, some _, some _, none, none, none, none]) d10005_70 rfl rfl ?_
      refine je_iload (pc := 72) d10005_72 rfl ?_
      refine ju_eqi (v := iZ (-(imx (-hi) (-100)))) (by rw [imx_a hl'.1, Int.neg_neg]) ?_
      refine ju_istore (pc := 74) (lv' := [some _, some _, some _, some _, some _, some _, some _, some _, some _, some _, none, none, none]) d10005_74 rfl rfl ?_
      refine je_iconst (pc := 76) (v := -1) d10005_76 rfl ?_
      refine ju_istore (pc := 77) (lv' := [some _, some _, some _, some _, some _, some _, some _, some _, some _, some _, some _, none, none]) d10005_77 rfl rfl ?_
      refine je_loop (σ := Int × Int32 × Option Value × Option Value) (S.1.1 + 1) (fun k xx => [some (.ref 79), some (.int (nI g)), some (.int (nI (g + (rem + 1)))), some (.int (iZ lo)), some (.int (iZ hi)), some (.int (-1)), some (.int (iZ (-(xx.1)))), some (.int xx.2.1), some (.int (iZ lo)), some (.int (iZ (-(imx (-hi) xx.1)))), some (.int (chV k)), xx.2.2.1, xx.2.2.2]) (fun k xx h' => fC (fun b => b = 65 ∨ b = 79 ∨ 82 + 5 * (g + 1) ≤ b ∧ b ≤ 106) h h' ∧ GJ (fun c => sgn false * gnF S R rem (!false) (dkL S R (wyI false) L c)) (okC_ L) (-hi) (-lo) S.1.2.1 (g = 0 ∧ lo = -(S.1.2.1 : Int) ∧ hi = (S.1.2.1 : Int)) k xx.1 xx.2.1) (fun k xx h' hk e kk => ?_) (fun xx h' e => ?_) (0) (-100, -1, none, none) h (by omega) ⟨fC.rf, Or.inl ⟨rfl, rfl, rfl⟩⟩
      · obtain ⟨e1, e2⟩ := e
        have H1 := e1.St H
        have C1 := C.fr e1 (fun b hb => olA (by omega))
        obtain ⟨s, c1, c2, c3, c4, -⟩ := id C1
        have L1 : rL h'.2.1 (82 + 5 * g) L := hL.of (fun b h1 h2 => e1.2 b (by omega))
        have bd := e2.bd hl'
        refine je_iload (pc := 79) d10005_79 rfl ?_
        refine je_aload0 (pc := 81) d10005_81 rfl ?_
        refine ju_getr (pc := 82) (b := 51) d10005_82 jF_10_21 rfl (sK79 H1) (sR79_0 H1) ?_
        refine ju_getr (pc := 85) (b := s) d10005_85 jF_10_34 rfl (sK51 H1) c1 ?_
        refine ju_geti (pc := 88) d10005_88 jF_10_50 rfl c3.1.1 ?_
        refine ju_eqi (v := nI S.1.1) c4.1.1 ?_
        refine ju_icge (pc := 91) 242 d10005_91 (by decide) (fun c91 => absurd c91 (fun z => z ((chV_lt hk (by omega)).mpr trivial))) (fun c91 => ?_)
        refine je_iload (pc := 94) d10005_94 rfl ?_
        refine je_iconst (pc := 96) (v := -1) d10005_96 rfl ?_
        refine ju_tern2 (pc := 97) (V := b2 (k = 0)) 105 ?_ (fun jn97 => ?_)
        · refine ju_istore (pc := 105) (lv' := [some _, some _, some _, some _, some _, some _, some _, some _, some _, some _, some _, some _, _]) d10005_105 rfl rfl ?_
          refine je_iload (pc := 107) d10005_107 rfl ?_
          refine jb_ifne (pc := 109) 126 d10005_109 (by decide) (fun c109 => ?_) (fun c109 => ?_)
          · have okk : k = 0 ∨ okC_ L k = true := by first | exact Or.inl c109 | exact Or.inr (decide_eq_true (Or.inr (by rw [L1.2.2.2.2.1] at c123; exact c123)))
            refine je_aload0 (pc := 126) d10005_126 rfl ?_
            refine je_iload1 (pc := 127) d10005_127 rfl ?_
            refine je_iload (pc := 128) d10005_128 rfl ?_
            refine ju_tern1 (pc := 130) (V := nI (if k = 0 then 0 else k - 1)) 139 ?_ (fun jn130 => ?_)
            · refine je_iload (pc := 139) d10005_139 rfl ?_
              refine ju_tern1 (pc := 141) (V := (if k = 0 then 0 else -1)) 150 ?_ (fun jn141 => ?_)
              · refine ju_callv (pc := 150) (as := [_, _, _]) d10005_150 jL_10_46 jM_Co_goOn rfl (by decide) (sK79 H1) rfl (by exact Nat.le_of_ble_eq_true rfl) (t_Co_goOn (d + rem + 1) (k := g) (m := if k = 0 then 0 else k - 1) H1 C1 wS h0 (by omega) L1 hN (by omega) (by split <;> omega) _) (fun r150 h150 q150 => ?_)
                obtain ⟨rfl, f1, f2⟩ := q150
                have H2 := f1.St H1
                have g1 : fC (fun b => b = 65 ∨ b = 79 ∨ 82 + 5 * (g + 1) ≤ b ∧ b ≤ 106) h h150 := e1.tr (f1.mo (fun b hb => by omega))
                have es : nxF S R (mvL (if k = 0 then 0 else k - 1) (if k = 0 then 0 else -1) L) = dkL S R (-1) L k := by
                  unfold dkL
                  by_cases z : k = 0
                  · rw [if_pos z, if_pos z, if_pos z, mv_id (wl.1 0 (by decide)).1]
                  · rw [if_neg z, if_neg z, if_neg z]
                rw [es] at f2
                have dkn : (dkL S R (-1) L k).2.2.2.2.2 = nI (nn + 1) := by
                  rw [← es]
                  show L.2.2.2.2.2 + 1 = _
                  rw [hN, nI_1]
                have dkw : wfL (nl + 1) S.1.1 S.1.2.1 (dkL S R (-1) L k) := by
                  rw [← es]
                  exact wfL.night hmi (by omega) (warmF_bd wS _) wl.mv
                have dke : (!false) = decide ((g + 1) % 2 = 0) := by
                  show true = _
                  exact (decide_eq_true (by omega)).symm
                refine je_aload0 (pc := 153) d10005_153 rfl ?_
                refine je_iload1 (pc := 154) d10005_154 rfl ?_
                refine je_iconst (pc := 155) (v := 1) d10005_155 rfl ?_
                refine je_iadd (pc := 156) d10005_156 ?_
                refine ju_eqi (v := nI ((g) + 1)) (nI_add (g) 1) ?_
                refine je_iload2 (pc := 157) d10005_157 rfl ?_
                refine je_iload (pc := 158) d10005_158 rfl ?_
                refine je_iload (pc := 160) d10005_160 rfl ?_
                refine ju_callv (pc := 162) (as := [_, _, _, _]) d10005_162 jL_10_69 jM_Co_gain rfl (by decide) (sK79 H2) rfl (by exact Nat.le_of_ble_eq_true rfl) (by have := ih d (h := h150) (L := dkL S R (-1) L k) (nn := nn + 1) (nl := nl + 1) (g := g + 1) (lo := lo) (hi := -(imx (-hi) xx.1)) (e := !false) (bc := 0) (bs := 0) H2 (C.fr g1 (fun b hb => olA (by omega))) (by omega) f2 dkn (by omega) dkw (by omega) dke (by omega) (by omega) (by have := e2.w hl'.1 hw'; omega); rw [show g + 1 + rem = g + (rem + 1) by omega] at this; exact this) (fun r162 h162 q162 => ?_)
                obtain ⟨x, rfl, a1, a2, a3, a4, -⟩ := q162
                have H3 := a4.St H2
                have ab : AB ((fun c => sgn false * gnF S R rem (!false) (dkL S R (wyI false) L c)) k) (imx (-hi) xx.1) (-lo) (-x) := by
                  have := a1.neg
                  rw [Int.neg_neg] at this
                  show AB (-1 * gnF S R rem true (dkL S R (-1) L k)) _ _ _
                  rw [Int.neg_one_mul]
                  exact this
                have yb := e2.yb hl' hh' (hf false) w8 ab
                have mb := e2.mx hl' hh' (hf false) w8 ab
                have g2 : fC (fun b => b = 65 ∨ b = 79 ∨ 82 + 5 * (g + 1) ≤ b ∧ b ≤ 106) h h162 := g1.tr (a4.mo (fun b hb => by omega))
                obtain ⟨st1, st2⟩ := e2.step hl' hh' (hf false) w8 hw' (fun r => by omega) okk ab (fun z => by have := a3 z; omega)
                have ib : -8 ≤ imx (-hi) (imx xx.1 (-x)) ∧ imx (-hi) (imx xx.1 (-x)) ≤ 8 := by unfold imx; split <;> (first | omega | (unfold imx at mb; split at mb <;> omega))
                refine ju_istore (pc := 165) (lv' := [some _, some _, some _, some _, some _, some _, some _, some _, some _, some _, some _, some _, some _]) d10005_165 rfl rfl ?_
                refine je_iload (pc := 167) d10005_167 rfl ?_
                refine je_iload (pc := 169) d10005_169 rfl ?_
                refine je_imul (pc := 171) d10005_171 ?_
                refine ju_eqi (v := iZ (-x)) (by rw [mulm, iZ_neg (by omega) (by omega)]) ?_
                refine je_iload (pc := 172) d10005_172 rfl ?_
                refine je_iload (pc := 174) d10005_174 rfl ?_
                refine je_imul (pc := 176) d10005_176 ?_
                refine ju_eqi (v := iZ xx.1) (by rw [mulm, ← iZ_neg (by omega) (by omega), Int.neg_neg]) ?_
                refine ju_icle (pc := 177) 188 d10005_177 (by decide) (fun c177 => ?_) (fun c177 => ?_)
                · refine je_iload (pc := 188) d10005_188 rfl ?_
                  refine ju_ifle (pc := 190) 203 d10005_190 (by decide) (fun c190 => ?_) (fun c190 => absurd c190 (by decide))
                  refine je_iload (pc := 203) d10005_203 rfl ?_
                  refine ju_istore (pc := 205) (lv' := [some _, some _, some _, some _, some _, some _, some _, some _, some _, some _, some _, some _, some _]) d10005_205 rfl rfl ?_
                  refine je_iload (pc := 207) d10005_207 rfl ?_
                  refine ju_ifge (pc := 209) 222 d10005_209 (by decide) (fun c209 => absurd c209 (fun z => z (by decide))) (fun c209 => ?_)
                  refine je_iload (pc := 212) d10005_212 rfl ?_
                  refine je_iload (pc := 214) d10005_214 rfl ?_
                  refine ju_eqi (v := iZ (-(imx xx.1 (-x)))) (by first | exact (bn_u (by omega) (by omega) (by omega) (by omega) c177) | exact (bn_f (by omega) (by omega) (by omega) (by omega) c177)) ?_
                  refine je_mmin (pc := 216) d10005_216 jLm_10_95 (by exact Nat.le_of_ble_eq_true rfl) ?_
                  refine ju_eqi (v := iZ (-(imx (-hi) (imx xx.1 (-x))))) ((mnZ (by omega) (by omega) (by omega) (by omega)).trans (by rw [imx_as])) ?_
                  refine je_goto (pc := 219) 224 d10005_219 (by decide) ?_
                  refine ju_istore (pc := 224) (lv' := [some _, some _, some _, some _, some _, some _, some _, some _, some _, some _, some _, some _, some _]) d10005_224 rfl rfl ?_
                  refine je_iload (pc := 226) d10005_226 rfl ?_
                  refine je_iload (pc := 228) d10005_228 rfl ?_
                  refine je_iclt (pc := 230) 236 d10005_230 (by decide) (fun c230 => ?_) (fun c230 => ?_)
                  · refine ju_inc (pc := 236) (y := 1) (lv' := [some _, some _, some _, some _, some _, some _, some _, some _, some _, some _, some _, some _, some _]) d10005_236 rfl rfl rfl ?_
                    refine je_goto (pc := 239) 79 d10005_239 (by decide) ?_
                    have eb : iZ (-(xx.1)) = iZ (-(imx xx.1 (-x))) := bn_f (by omega) (by omega) (by omega) (by omega) c177
                    have gj := st1 (by have := (iZ_lt (by omega) (by omega) (by omega) (by omega)).mp c230; omega)
                    rw [if_neg (show ¬ xx.1 < (-x) from fun z => c177 ((iZ_lt (by omega) (by omega) (by omega) (by omega)).mpr z))] at gj
                    rw [eb, chV_i (by omega)]
                    exact kk (_, _, some _, some _) _ ⟨g2, gj⟩
                  · refine je_goto (pc := 233) 242 d10005_233 (by decide) ?_
                    refine je_iload1 (pc := 242) d10005_242 rfl ?_
                    refine jn_ifne (pc := 243) (a := (g)) 252 d10005_243 (by decide) (by omega) (fun c243 => ?_) (fun c243 => ?_)
                    · refine je_iload (pc := 252) d10005_252 rfl ?_
                      refine ju_eqi (v := iZ (-(imx xx.1 (-x)))) (by first | exact (bn_u (by omega) (by omega) (by omega) (by omega) c177) | exact (bn_f (by omega) (by omega) (by omega) (by omega) c177)) ?_
                      refine je_iret (pc := 254) d10005_254 rfl ?_
                      obtain ⟨z0, z1, -, z3⟩ := st2 (by have : ¬ _ := fun z => c230 ((iZ_lt (by omega) (by omega) (by omega) (by omega)).mpr z); omega)
                      obtain ⟨y1, y2, y3, y4⟩ := GJ.br (N := S.1.1 + 1) (by omega) hl' hw' (hf false) (fun r => by omega) mb z0 z1 z3
                      refine ⟨-(imx xx.1 (-x)), rfl, ?_, ?_, ?_, g2, fun k' hk' rt => ?_⟩
                      · show AB (sgn false * rbF (fun c => sgn false * gnF S R rem (!false) (dkL S R (wyI false) L c)) (okC_ L) (S.1.1 + 1)) lo hi _
                        show AB (-1 * _) lo hi _; rw [Int.neg_one_mul]; have := y1.neg; rw [Int.neg_neg, Int.neg_neg] at this; exact this
                      · omega
                      · intro z; have := y2 z; omega
                      · cases hk'
                        omega
                    · refine je_aload0 (pc := 246) d10005_246 rfl ?_
                      refine je_iload (pc := 247) d10005_247 rfl ?_
                      refine ju_puti (pc := 249) d10005_249 jF_10_98 rfl (sK79 H3) ?_
                      refine je_iload (pc := 252) d10005_252 rfl ?_
                      refine ju_eqi (v := iZ (-(imx xx.1 (-x)))) (by first | exact (bn_u (by omega) (by omega) (by omega) (by omega) c177) | exact (bn_f (by omega) (by omega) (by omega) (by omega) c177)) ?_
                      refine je_iret (pc := 254) d10005_254 rfl ?_
                      obtain ⟨z0, z1, -, z3⟩ := st2 (by have : ¬ _ := fun z => c230 ((iZ_lt (by omega) (by omega) (by omega) (by omega)).mpr z); omega)
                      obtain ⟨y1, y2, y3, y4⟩ := GJ.br (N := S.1.1 + 1) (by omega) hl' hw' (hf false) (fun r => by omega) mb z0 z1 z3
                      refine ⟨-(imx xx.1 (-x)), rfl, ?_, ?_, ?_, g2.wI (by omega), fun k' hk' rt => ?_⟩
                      · show AB (sgn false * rbF (fun c => sgn false * gnF S R rem (!false) (dkL S R (wyI false) L c)) (okC_ L) (S.1.1 + 1)) lo hi _
                        show AB (-1 * _) lo hi _; rw [Int.neg_one_mul]; have := y1.neg; rw [Int.neg_neg, Int.neg_neg] at this; exact this
                      · omega
                      · intro z; have := y2 z; omega
                      · cases hk'
                        rw [wI_at, jx_up_self]; have := y4 rt; rw [if_neg (show ¬ xx.1 < (-x) from fun z => c177 ((iZ_lt (by omega) (by omega) (by omega) (by omega)).mpr z))] at this; exact this
                · refine je_iload (pc := 180) d10005_180 rfl ?_
                  refine ju_istore (pc := 182) (lv' := [some _, some _, some _, some _, some _, some _, some _, some _, some _, some _, some _, some _, some _]) d10005_182 rfl rfl ?_
                  refine je_iload (pc := 184) d10005_184 rfl ?_
                  refine ju_istore (pc := 186) (lv' := [some _, some _, some _, some _, some _, some _, some _, some _, some _, some _, some _, some _, some _]) d10005_186 rfl rfl ?_
                  refine je_iload (pc := 188) d10005_188 rfl ?_
                  refine ju_ifle (pc := 190) 203 d10005_190 (by decide) (fun c190 => ?_) (fun c190 => absurd c190 (by decide))
                  refine je_iload (pc := 203) d10005_203 rfl ?_
                  refine ju_istore (pc := 205) (lv' := [some _, some _, some _, some _, some _, some _, some _, some _, some _, some _, some _, some _, some _]) d10005_205 rfl rfl ?_
                  refine je_iload (pc := 207) d10005_207 rfl ?_
                  refine ju_ifge (pc := 209) 222 d10005_209 (by decide) (fun c209 => absurd c209 (fun z => z (by decide))) (fun c209 => ?_)
                  refine je_iload (pc := 212) d10005_212 rfl ?_
                  refine je_iload (pc := 214) d10005_214 rfl ?_
                  refine ju_eqi (v := iZ (-(imx xx.1 (-x)))) (by first | exact (bn_u (by omega) (by omega) (by omega) (by omega) c177) | exact (bn_f (by omega) (by omega) (by omega) (by omega) c177)) ?_
                  refine je_mmin (pc := 216) d10005_216 jLm_10_95 (by exact Nat.le_of_ble_eq_true rfl) ?_
                  refine ju_eqi (v := iZ (-(imx (-hi) (imx xx.1 (-x))))) ((mnZ (by omega) (by omega) (by omega) (by omega)).trans (by rw [imx_as])) ?_
                  refine je_goto (pc := 219) 224 d10005_219 (by decide) ?_
                  refine ju_istore (pc := 224) (lv' := [some _, some _, some _, some _, some _, some _, some _, some _, some _, some _, some _, some _, some _]) d10005_224 rfl rfl ?_
                  refine je_iload (pc := 226) d10005_226 rfl ?_
                  refine je_iload (pc := 228) d10005_228 rfl ?_
                  refine je_iclt (pc := 230) 236 d10005_230 (by decide) (fun c230 => ?_) (fun c230 => ?_)
                  · refine ju_inc (pc := 236) (y := 1) (lv' := [some _, some _, some _, some _, some _, some _, some _, some _, some _, some _, some _, some _, some _]) d10005_236 rfl rfl rfl ?_
                    refine je_goto (pc := 239) 79 d10005_239 (by decide) ?_
                    have eb : iZ x = iZ (-(imx xx.1 (-x))) := bn_u (by omega) (by omega) (by omega) (by omega) c177
                    have gj := st1 (by have := (iZ_lt (by omega) (by omega) (by omega) (by omega)).mp c230; omega)
                    rw [if_pos (show xx.1 < (-x) from (iZ_lt (by omega) (by omega) (by omega) (by omega)).mp c177)] at gj
                    rw [eb, chV_i (by omega)]
                    exact kk (_, _, some _, some _) _ ⟨g2, gj⟩
                  · refine je_goto (pc := 233) 242 d10005_233 (by decide) ?_
                    refine je_iload1 (pc := 242) d10005_242 rfl ?_
                    refine jn_ifne (pc := 243) (a := (g)) 252 d10005_243 (by decide) (by omega) (fun c243 => ?_) (fun c243 => ?_)
                    · refine je_iload (pc := 252) d10005_252 rfl ?_
                      refine ju_eqi (v := iZ (-(imx xx.1 (-x)))) (by first | exact (bn_u (by omega) (by omega) (by omega) (by omega) c177) | exact (bn_f (by omega) (by omega) (by omega) (by omega) c177)) ?_
                      refine je_iret (pc := 254) d10005_254 rfl ?_
                      obtain ⟨z0, z1, -, z3⟩ := st2 (by have : ¬ _ := fun z => c230 ((iZ_lt (by omega) (by omega) (by omega) (by omega)).mpr z); omega)
                      obtain ⟨y1, y2, y3, y4⟩ := GJ.br (N := S.1.1 + 1) (by omega) hl' hw' (hf false) (fun r => by omega) mb z0 z1 z3
                      refine ⟨-(imx xx.1 (-x)), rfl, ?_, ?_, ?_, g2, fun k' hk' rt => ?_⟩
                      · show AB (sgn false * rbF (fun c => sgn false * gnF S R rem (!false) (dkL S R (wyI false) L c)) (okC_ L) (S.1.1 + 1)) lo hi _
                        show AB (-1 * _) lo hi _; rw [Int.neg_one_mul]; have := y1.neg; rw [Int.neg_neg, Int.neg_neg] at this; exact this
                      · omega
                      · intro z; have := y2 z; omega
                      · cases hk'
                        omega
                    · refine je_aload0 (pc := 246) d10005_246 rfl ?_
                      refine je_iload (pc := 247) d10005_247 rfl ?_
                      refine ju_puti (pc := 249) d10005_249 jF_10_98 rfl (sK79 H3) ?_
                      refine je_iload (pc := 252) d10005_252 rfl ?_
                      refine ju_eqi (v := iZ (-(imx xx.1 (-x)))) (by first | exact (bn_u (by omega) (by omega) (by omega) (by omega) c177) | exact (bn_f (by omega) (by omega) (by omega) (by omega) c177)) ?_
                      refine je_iret (pc := 254) d10005_254 rfl ?_
                      obtain ⟨z0, z1, -, z3⟩ := st2 (by have : ¬ _ := fun z => c230 ((iZ_lt (by omega) (by omega) (by omega) (by omega)).mpr z); omega)
                      obtain ⟨y1, y2, y3, y4⟩ := GJ.br (N := S.1.1 + 1) (by omega) hl' hw' (hf false) (fun r => by omega) mb z0 z1 z3
                      refine ⟨-(imx xx.1 (-x)), rfl, ?_, ?_, ?_, g2.wI (by omega), fun k' hk' rt => ?_⟩
                      · show AB (sgn false * rbF (fun c => sgn false * gnF S R rem (!false) (dkL S R (wyI false) L c)) (okC_ L) (S.1.1 + 1)) lo hi _
                        show AB (-1 * _) lo hi _; rw [Int.neg_one_mul]; have := y1.neg; rw [Int.neg_neg, Int.neg_neg] at this; exact this
                      · omega
                      · intro z; have := y2 z; omega
                      · cases hk'
                        rw [wI_at, jx_up_self]; have := y4 rt; rw [if_pos (show xx.1 < (-x) from (iZ_lt (by omega) (by omega) (by omega) (by omega)).mp c177)] at this; exact this
              · refine jb_ifeq (pc := 141) 148 d10005_141 (by decide) (fun c141 => ?_) (fun c141 => ?_)
                · refine je_iload (pc := 148) d10005_148 rfl ?_
                  refine ju_eqi (v := (if k = 0 then 0 else -1)) (by rw [if_neg c141]) ?_
                  exact jn141
                · refine je_iconst (pc := 144) (v := 0) d10005_144 rfl ?_
                  refine je_goto (pc := 145) 150 d10005_145 (by decide) ?_
                  refine ju_eqi (v := (if k = 0 then 0 else -1)) (by rw [if_pos c141]) ?_
                  exact jn141
            · refine jb_ifeq (pc := 130) 137 d10005_130 (by decide) (fun c130 => ?_) (fun c130 => ?_)
              · refine je_iload (pc := 137) d10005_137 rfl ?_
                refine ju_eqi (v := nI (if k = 0 then 0 else k - 1)) (by rw [if_neg c130]; exact chV_n c130) ?_
                exact jn130
              · refine je_iconst (pc := 133) (v := 0) d10005_133 rfl ?_
                refine je_goto (pc := 134) 139 d10005_134 (by decide) ?_
                refine ju_eqi (v := nI (if k = 0 then 0 else k - 1)) (by rw [if_pos c130]; rfl) ?_
                exact jn130
          · refine je_aload0 (pc := 112) d10005_112 rfl ?_
            refine ju_getr (pc := 113) (b := 80) d10005_113 jF_10_11 rfl (sK79 H1) (sR79_1 H1) ?_
            refine je_iload1 (pc := 116) d10005_116 rfl ?_
            refine je_aald (pc := 117) d10005_117 (by decide) (sK80 H1) (vp_in_nI (by omega) (by decide)) (v := .ref (82 + 5 * g)) (r80 H1 (by omega)) ?_
            refine je_iload (pc := 118) d10005_118 rfl ?_
            refine ju_eqi (v := nI (k - 1)) (chV_n c109) ?_
            refine ju_callv (pc := 120) (as := [_]) d10005_120 jL_10_54 jM_La_isBaked rfl (by decide) (lA_La H1 (ln_A (by omega))).1 rfl (by exact Nat.le_of_ble_eq_true rfl) (t_La_isBaked (d + rem + 5) (a := 82 + 5 * g) (lA_La H1 (ln_A (by omega))) _) (fun r120 h120 q120 => ?_)
            obtain ⟨rfl, e120⟩ := q120
            obtain rfl := e120.symm
            refine jb_ifne (pc := 123) 236 d10005_123 (by decide) (fun c123 => ?_) (fun c123 => ?_)
            · refine ju_inc (pc := 236) (y := 1) (lv' := [some _, some _, some _, some _, some _, some _, some _, some _, some _, some _, some _, some _, _]) d10005_236 rfl rfl rfl ?_
              refine je_goto (pc := 239) 79 d10005_239 (by decide) ?_
              rw [chV_i (by omega)]
              exact kk (xx.1, xx.2.1, some _, xx.2.2.2) _ ⟨e1, e2.skip (by omega) (decide_eq_false (fun q => q.elim c109 (fun y => y (by rw [L1.2.2.2.2.1] at c123; exact c123))))⟩
            · have okk : k = 0 ∨ okC_ L k = true := by first | exact Or.inl c109 | exact Or.inr (decide_eq_true (Or.inr (by rw [L1.2.2.2.2.1] at c123; exact c123)))
              refine je_aload0 (pc := 126) d10005_126 rfl ?_
              refine je_iload1 (pc := 127) d10005_127 rfl ?_
              refine je_iload (pc := 128) d10005_128 rfl ?_
              refine ju_tern1 (pc := 130) (V := nI (if k = 0 then 0 else k - 1)) 139 ?_ (fun jn130 => ?_)
              · refine je_iload (pc := 139) d10005_139 rfl ?_
                refine ju_tern1 (pc := 141) (V := (if k = 0 then 0 else -1)) 150 ?_ (fun jn141 => ?_)
                · refine ju_callv (pc := 150) (as := [_, _, _]) d10005_150 jL_10_46 jM_Co_goOn rfl (by decide) (sK79 H1) rfl (by exact Nat.le_of_ble_eq_true rfl) (t_Co_goOn (d + rem + 1) (k := g) (m := if k = 0 then 0 else k - 1) H1 C1 wS h0 (by omega) L1 hN (by omega) (by split <;> omega) _) (fun r150 h150 q150 => ?_)
                  obtain ⟨rfl, f1, f2⟩ := q150
                  have H2 := f1.St H1
                  have g1 : fC (fun b => b = 65 ∨ b = 79 ∨ 82 + 5 * (g + 1) ≤ b ∧ b ≤ 106) h h150 := e1.tr (f1.mo (fun b hb => by omega))
                  have es : nxF S R (mvL (if k = 0 then 0 else k - 1) (if k = 0 then 0 else -1) L) = dkL S R (-1) L k := by
                    unfold dkL
                    by_cases z : k = 0
                    · rw [if_pos z, if_pos z, if_pos z, mv_id (wl.1 0 (by decide)).1]
                    · rw [if_neg z, if_neg z, if_neg z]
                  rw [es] at f2
                  have dkn : (dkL S R (-1) L k).2.2.2.2.2 = nI (nn + 1) := by
                    rw [← es]
                    show L.2.2.2.2.2 + 1 = _
                    rw [hN, nI_1]
                  have dkw : wfL (nl + 1) S.1.1 S.1.2.1 (dkL S R (-1) L k) := by
                    rw [← es]
                    exact wfL.night hmi (by omega) (warmF_bd wS _) wl.mv
                  have dke : (!false) = decide ((g + 1) % 2 = 0) := by
                    show true = _
                    exact (decide_eq_true (by omega)).symm
                  refine je_aload0 (pc := 153) d10005_153 rfl ?_
                  refine je_iload1 (pc := 154) d10005_154 rfl ?_
                  refine je_iconst (pc := 155) (v := 1) d10005_155 rfl ?_
                  refine je_iadd (pc := 156) d10005_156 ?_
                  refine ju_eqi (v := nI ((g) + 1)) (nI_add (g) 1) ?_
                  refine je_iload2 (pc := 157) d10005_157 rfl ?_
                  refine je_iload (pc := 158) d10005_158 rfl ?_
                  refine je_iload (pc := 160) d10005_160 rfl ?_
                  refine ju_callv (pc := 162) (as := [_, _, _, _]) d10005_162 jL_10_69 jM_Co_gain rfl (by decide) (sK79 H2) rfl (by exact Nat.le_of_ble_eq_true rfl) (by have := ih d (h := h150) (L := dkL S R (-1) L k) (nn := nn + 1) (nl := nl + 1) (g := g + 1) (lo := lo) (hi := -(imx (-hi) xx.1)) (e := !false) (bc := 0) (bs := 0) H2 (C.fr g1 (fun b hb => olA (by omega))) (by omega) f2 dkn (by omega) dkw (by omega) dke (by omega) (by omega) (by have := e2.w hl'.1 hw'; omega); rw [show g + 1 + rem = g + (rem + 1) by omega] at this; exact this) (fun r162 h162 q162 => ?_)
                  obtain ⟨x, rfl, a1, a2, a3, a4, -⟩ := q162
                  have H3 := a4.St H2
                  have ab : AB ((fun c => sgn false * gnF S R rem (!false) (dkL S R (wyI false) L c)) k) (imx (-hi) xx.1) (-lo) (-x) := by
                    have := a1.neg
                    rw [Int.neg_neg] at this
                    show AB (-1 * gnF S R rem true (dkL S R (-1) L k)) _ _ _
                    rw [Int.neg_one_mul]
                    exact this
                  have yb := e2.yb hl' hh' (hf false) w8 ab
                  have mb := e2.mx hl' hh' (hf false) w8 ab
                  have g2 : fC (fun b => b = 65 ∨ b = 79 ∨ 82 + 5 * (g + 1) ≤ b ∧ b ≤ 106) h h162 := g1.tr (a4.mo (fun b hb => by omega))
                  obtain ⟨st1, st2⟩ := e2.step hl' hh' (hf false) w8 hw' (fun r => by omega) okk ab (fun z => by have := a3 z; omega)
                  have ib : -8 ≤ imx (-hi) (imx xx.1 (-x)) ∧ imx (-hi) (imx xx.1 (-x)) ≤ 8 := by unfold imx; split <;> (first | omega | (unfold imx at mb; split at mb <;> omega))
                  refine ju_istore (pc := 165) (lv' := [some _, some _, some _, some _, some _, some _, some _, some _, some _, some _, some _, some _, some _]) d10005_165 rfl rfl ?_
                  refine je_iload (pc := 167) d10005_167 rfl ?_
                  refine je_iload (pc := 169) d10005_169 rfl ?_
                  refine je_imul (pc := 171) d10005_171 ?_
                  refine ju_eqi (v := iZ (-x)) (by rw [mulm, iZ_neg (by omega) (by omega)]) ?_
                  refine je_iload (pc := 172) d10005_172 rfl ?_
                  refine je_iload (pc := 174) d10005_174 rfl ?_
                  refine je_imul (pc := 176) d10005_176 ?_
                  refine ju_eqi (v := iZ xx.1) (by rw [mulm, ← iZ_neg (by omega) (by omega), Int.neg_neg]) ?_
                  refine ju_icle (pc := 177) 188 d10005_177 (by decide) (fun c177 => ?_) (fun c177 => ?_)
                  · refine je_iload (pc := 188) d10005_188 rfl ?_
                    refine ju_ifle (pc := 190) 203 d10005_190 (by decide) (fun c190 => ?_) (fun c190 => absurd c190 (by decide))
                    refine je_iload (pc := 203) d10005_203 rfl ?_
                    refine ju_istore (pc := 205) (lv' := [some _, some _, some _, some _, some _, some _, some _, some _, some _, some _, some _, some _, some _]) d10005_205 rfl rfl ?_
                    refine je_iload (pc := 207) d10005_207 rfl ?_
                    refine ju_ifge (pc := 209) 222 d10005_209 (by decide) (fun c209 => absurd c209 (fun z => z (by decide))) (fun c209 => ?_)
                    refine je_iload (pc := 212) d10005_212 rfl ?_
                    refine je_iload (pc := 214) d10005_214 rfl ?_
                    refine ju_eqi (v := iZ (-(imx xx.1 (-x)))) (by first | exact (bn_u (by omega) (by omega) (by omega) (by omega) c177) | exact (bn_f (by omega) (by omega) (by omega) (by omega) c177)) ?_
                    refine je_mmin (pc := 216) d10005_216 jLm_10_95 (by exact Nat.le_of_ble_eq_true rfl) ?_
                    refine ju_eqi (v := iZ (-(imx (-hi) (imx xx.1 (-x))))) ((mnZ (by omega) (by omega) (by omega) (by omega)).trans (by rw [imx_as])) ?_
                    refine je_goto (pc := 219) 224 d10005_219 (by decide) ?_
                    refine ju_istore (pc := 224) (lv' := [some _, some _, some _, some _, some _, some _, some _, some _, some _, some _, some _, some _, some _]) d10005_224 rfl rfl ?_
                    refine je_iload (pc := 226) d10005_226 rfl ?_
                    refine je_iload (pc := 228) d10005_228 rfl ?_
                    refine je_iclt (pc := 230) 236 d10005_230 (by decide) (fun c230 => ?_) (fun c230 => ?_)
                    · refine ju_inc (pc := 236) (y := 1) (lv' := [some _, some _, some _, some _, some _, some _, some _, some _, some _, some _, some _, some _, some _]) d10005_236 rfl rfl rfl ?_
                      refine je_goto (pc := 239) 79 d10005_239 (by decide) ?_
                      have eb : iZ (-(xx.1)) = iZ (-(imx xx.1 (-x))) := bn_f (by omega) (by omega) (by omega) (by omega) c177
                      have gj := st1 (by have := (iZ_lt (by omega) (by omega) (by omega) (by omega)).mp c230; omega)
                      rw [if_neg (show ¬ xx.1 < (-x) from fun z => c177 ((iZ_lt (by omega) (by omega) (by omega) (by omega)).mpr z))] at gj
                      rw [eb, chV_i (by omega)]
                      exact kk (_, _, some _, some _) _ ⟨g2, gj⟩
                    · refine je_goto (pc := 233) 242 d10005_233 (by decide) ?_
                      refine je_iload1 (pc := 242) d10005_242 rfl ?_
                      refine jn_ifne (pc := 243) (a := (g)) 252 d10005_243 (by decide) (by omega) (fun c243 => ?_) (fun c243 => ?_)
                      · refine je_iload (pc := 252) d10005_252 rfl ?_
                        refine ju_eqi (v := iZ (-(imx xx.1 (-x)))) (by first | exact (bn_u (by omega) (by omega) (by omega) (by omega) c177) | exact (bn_f (by omega) (by omega) (by omega) (by omega) c177)) ?_
                        refine je_iret (pc := 254) d10005_254 rfl ?_
                        obtain ⟨z0, z1, -, z3⟩ := st2 (by have : ¬ _ := fun z => c230 ((iZ_lt (by omega) (by omega) (by omega) (by omega)).mpr z); omega)
                        obtain ⟨y1, y2, y3, y4⟩ := GJ.br (N := S.1.1 + 1) (by omega) hl' hw' (hf false) (fun r => by omega) mb z0 z1 z3
                        refine ⟨-(imx xx.1 (-x)), rfl, ?_, ?_, ?_, g2, fun k' hk' rt => ?_⟩
                        · show AB (sgn false * rbF (fun c => sgn false * gnF S R rem (!false) (dkL S R (wyI false) L c)) (okC_ L) (S.1.1 + 1)) lo hi _
                          show AB (-1 * _) lo hi _; rw [Int.neg_one_mul]; have := y1.neg; rw [Int.neg_neg, Int.neg_neg] at this; exact this
                        · omega
                        · intro z; have := y2 z; omega
                        · cases hk'
                          omega
                      · refine je_aload0 (pc := 246) d10005_246 rfl ?_
                        refine je_iload (pc := 247) d10005_247 rfl ?_
                        refine ju_puti (pc := 249) d10005_249 jF_10_98 rfl (sK79 H3) ?_
                        refine je_iload (pc := 252) d10005_252 rfl ?_
                        refine ju_eqi (v := iZ (-(imx xx.1 (-x)))) (by first | exact (bn_u (by omega) (by omega) (by omega) (by omega) c177) | exact (bn_f (by omega) (by omega) (by omega) (by omega) c177)) ?_
                        refine je_iret (pc := 254) d10005_254 rfl ?_
                        obtain ⟨z0, z1, -, z3⟩ := st2 (by have : ¬ _ := fun z => c230 ((iZ_lt (by omega) (by omega) (by omega) (by omega)).mpr z); omega)
                        obtain ⟨y1, y2, y3, y4⟩ := GJ.br (N := S.1.1 + 1) (by omega) hl' hw' (hf false) (fun r => by omega) mb z0 z1 z3
                        refine ⟨-(imx xx.1 (-x)), rfl, ?_, ?_, ?_, g2.wI (by omega), fun k' hk' rt => ?_⟩
                        · show AB (sgn false * rbF (fun c => sgn false * gnF S R rem (!false) (dkL S R (wyI false) L c)) (okC_ L) (S.1.1 + 1)) lo hi _
                          show AB (-1 * _) lo hi _; rw [Int.neg_one_mul]; have := y1.neg; rw [Int.neg_neg, Int.neg_neg] at this; exact this
                        · omega
                        · intro z; have := y2 z; omega
                        · cases hk'
                          rw [wI_at, jx_up_self]; have := y4 rt; rw [if_neg (show ¬ xx.1 < (-x) from fun z => c177 ((iZ_lt (by omega) (by omega) (by omega) (by omega)).mpr z))] at this; exact this
                  · refine je_iload (pc := 180) d10005_180 rfl ?_
                    refine ju_istore (pc := 182) (lv' := [some _, some _, some _, some _, some _, some _, some _, some _, some _, some _, some _, some _, some _]) d10005_182 rfl rfl ?_
                    refine je_iload (pc := 184) d10005_184 rfl ?_
                    refine ju_istore (pc := 186) (lv' := [some _, some _, some _, some _, some _, some _, some _, some _, some _, some _, some _, some _, some _]) d10005_186 rfl rfl ?_
                    refine je_iload (pc := 188) d10005_188 rfl ?_
                    refine ju_ifle (pc := 190) 203 d10005_190 (by decide) (fun c190 => ?_) (fun c190 => absurd c190 (by decide))
                    refine je_iload (pc := 203) d10005_203 rfl ?_
                    refine ju_istore (pc := 205) (lv' := [some _, some _, some _, some _, some _, some _, some _, some _, some _, some _, some _, some _, some _]) d10005_205 rfl rfl ?_
                    refine je_iload (pc := 207) d10005_207 rfl ?_
                    refine ju_ifge (pc := 209) 222 d10005_209 (by decide) (fun c209 => absurd c209 (fun z => z (by decide))) (fun c209 => ?_)
                    refine je_iload (pc := 212) d10005_212 rfl ?_
                    refine je_iload (pc := 214) d10005_214 rfl ?_
                    refine ju_eqi (v := iZ (-(imx xx.1 (-x)))) (by first | exact (bn_u (by omega) (by omega) (by omega) (by omega) c177) | exact (bn_f (by omega) (by omega) (by omega) (by omega) c177)) ?_
                    refine je_mmin (pc := 216) d10005_216 jLm_10_95 (by exact Nat.le_of_ble_eq_true rfl) ?_
                    refine ju_eqi (v := iZ (-(imx (-hi) (imx xx.1 (-x))))) ((mnZ (by omega) (by omega) (by omega) (by omega)).trans (by rw [imx_as])) ?_
                    refine je_goto (pc := 219) 224 d10005_219 (by decide) ?_
                    refine ju_istore (pc := 224) (lv' := [some _, some _, some _, some _, some _, some _, some _, some _, some _, some _, some _, some _, some _]) d10005_224 rfl rfl ?_
                    refine je_iload (pc := 226) d10005_226 rfl ?_
                    refine je_iload (pc := 228) d10005_228 rfl ?_
                    refine je_iclt (pc := 230) 236 d10005_230 (by decide) (fun c230 => ?_) (fun c230 => ?_)
                    · refine ju_inc (pc := 236) (y := 1) (lv' := [some _, some _, some _, some _, some _, some _, some _, some _, some _, some _, some _, some _, some _]) d10005_236 rfl rfl rfl ?_
                      refine je_goto (pc := 239) 79 d10005_239 (by decide) ?_
                      have eb : iZ x = iZ (-(imx xx.1 (-x))) := bn_u (by omega) (by omega) (by omega) (by omega) c177
                      have gj := st1 (by have := (iZ_lt (by omega) (by omega) (by omega) (by omega)).mp c230; omega)
                      rw [if_pos (show xx.1 < (-x) from (iZ_lt (by omega) (by omega) (by omega) (by omega)).mp c177)] at gj
                      rw [eb, chV_i (by omega)]
                      exact kk (_, _, some _, some _) _ ⟨g2, gj⟩
                    · refine je_goto (pc := 233) 242 d10005_233 (by decide) ?_
                      refine je_iload1 (pc := 242) d10005_242 rfl ?_
                      refine jn_ifne (pc := 243) (a := (g)) 252 d10005_243 (by decide) (by omega) (fun c243 => ?_) (fun c243 => ?_)
                      · refine je_iload (pc := 252) d10005_252 rfl ?_
                        refine ju_eqi (v := iZ (-(imx xx.1 (-x)))) (by first | exact (bn_u (by omega) (by omega) (by omega) (by omega) c177) | exact (bn_f (by omega) (by omega) (by omega) (by omega) c177)) ?_
                        refine je_iret (pc := 254) d10005_254 rfl ?_
                        obtain ⟨z0, z1, -, z3⟩ := st2 (by have : ¬ _ := fun z => c230 ((iZ_lt (by omega) (by omega) (by omega) (by omega)).mpr z); omega)
                        obtain ⟨y1, y2, y3, y4⟩ := GJ.br (N := S.1.1 + 1) (by omega) hl' hw' (hf false) (fun r => by omega) mb z0 z1 z3
                        refine ⟨-(imx xx.1 (-x)), rfl, ?_, ?_, ?_, g2, fun k' hk' rt => ?_⟩
                        · show AB (sgn false * rbF (fun c => sgn false * gnF S R rem (!false) (dkL S R (wyI false) L c)) (okC_ L) (S.1.1 + 1)) lo hi _
                          show AB (-1 * _) lo hi _; rw [Int.neg_one_mul]; have := y1.neg; rw [Int.neg_neg, Int.neg_neg] at this; exact this
                        · omega
                        · intro z; have := y2 z; omega
                        · cases hk'
                          omega
                      · refine je_aload0 (pc := 246) d10005_246 rfl ?_
                        refine je_iload (pc := 247) d10005_247 rfl ?_
                        refine ju_puti (pc := 249) d10005_249 jF_10_98 rfl (sK79 H3) ?_
                        refine je_iload (pc := 252) d10005_252 rfl ?_
                        refine ju_eqi (v := iZ (-(imx xx.1 (-x)))) (by first | exact (bn_u (by omega) (by omega) (by omega) (by omega) c177) | exact (bn_f (by omega) (by omega) (by omega) (by omega) c177)) ?_
                        refine je_iret (pc := 254) d10005_254 rfl ?_
                        obtain ⟨z0, z1, -, z3⟩ := st2 (by have : ¬ _ := fun z => c230 ((iZ_lt (by omega) (by omega) (by omega) (by omega)).mpr z); omega)
                        obtain ⟨y1, y2, y3, y4⟩ := GJ.br (N := S.1.1 + 1) (by omega) hl' hw' (hf false) (fun r => by omega) mb z0 z1 z3
                        refine ⟨-(imx xx.1 (-x)), rfl, ?_, ?_, ?_, g2.wI (by omega), fun k' hk' rt => ?_⟩
                        · show AB (sgn false * rbF (fun c => sgn false * gnF S R rem (!false) (dkL S R (wyI false) L c)) (okC_ L) (S.1.1 + 1)) lo hi _
                          show AB (-1 * _) lo hi _; rw [Int.neg_one_mul]; have := y1.neg; rw [Int.neg_neg, Int.neg_neg] at this; exact this
                        · omega
                        · intro z; have := y2 z; omega
                        · cases hk'
                          rw [wI_at, jx_up_self]; have := y4 rt; rw [if_pos (show xx.1 < (-x) from (iZ_lt (by omega) (by omega) (by omega) (by omega)).mp c177)] at this; exact this
                · refine jb_ifeq (pc := 141) 148 d10005_141 (by decide) (fun c141 => ?_) (fun c141 => ?_)
                  · refine je_iload (pc := 148) d10005_148 rfl ?_
                    refine ju_eqi (v := (if k = 0 then 0 else -1)) (by rw [if_neg c141]) ?_
                    exact jn141
                  · refine je_iconst (pc := 144) (v := 0) d10005_144 rfl ?_
                    refine je_goto (pc := 145) 150 d10005_145 (by decide) ?_
                    refine ju_eqi (v := (if k = 0 then 0 else -1)) (by rw [if_pos c141]) ?_
                    exact jn141
              · refine jb_ifeq (pc := 130) 137 d10005_130 (by decide) (fun c130 => ?_) (fun c130 => ?_)
                · refine je_iload (pc := 137) d10005_137 rfl ?_
                  refine ju_eqi (v := nI (if k = 0 then 0 else k - 1)) (by rw [if_neg c130]; exact chV_n c130) ?_
                  exact jn130
                · refine je_iconst (pc := 133) (v := 0) d10005_133 rfl ?_
                  refine je_goto (pc := 134) 139 d10005_134 (by decide) ?_
                  refine ju_eqi (v := nI (if k = 0 then 0 else k - 1)) (by rw [if_pos c130]; rfl) ?_
                  exact jn130
        · refine je_icne (pc := 97) 104 d10005_97 (by decide) (fun c97 => ?_) (fun c97 => ?_)
          · refine je_iconst (pc := 104) (v := 0) d10005_104 rfl ?_
            refine ju_eqi (v := b2 (k = 0)) (b2_f (fun q => c97 (by rw [q]; rfl))).symm ?_
            exact jn97
          · refine je_iconst (pc := 100) (v := 1) d10005_100 rfl ?_
            refine je_goto (pc := 101) 105 d10005_101 (by decide) ?_
            refine ju_eqi (v := b2 (k = 0)) (b2_t ((chV_0 (by omega)).mp c97)).symm ?_
            exact jn97
      · obtain ⟨e1, e2⟩ := e
        have H1 := e1.St H
        have C1 := C.fr e1 (fun b hb => olA (by omega))
        obtain ⟨s, c1, c2, c3, c4, -⟩ := id C1
        have L1 : rL h'.2.1 (82 + 5 * g) L := hL.of (fun b h1 h2 => e1.2 b (by omega))
        have bd := e2.bd hl'
        refine je_iload (pc := 79) d10005_79 rfl ?_
        refine je_aload0 (pc := 81) d10005_81 rfl ?_
        refine ju_getr (pc := 82) (b := 51) d10005_82 jF_10_21 rfl (sK79 H1) (sR79_0 H1) ?_
        refine ju_getr (pc := 85) (b := s) d10005_85 jF_10_34 rfl (sK51 H1) c1 ?_
        refine ju_geti (pc := 88) d10005_88 jF_10_50 rfl c3.1.1 ?_
        refine ju_eqi (v := nI S.1.1) c4.1.1 ?_
        refine ju_icge (pc := 91) 242 d10005_91 (by decide) (fun c91 => ?_) (fun c91 => absurd c91 (chV_ge (by omega)))
        refine je_iload1 (pc := 242) d10005_242 rfl ?_
        refine jn_ifne (pc := 243) (a := (g)) 252 d10005_243 (by decide) (by omega) (fun c243 => ?_) (fun c243 => ?_)
        · refine je_iload (pc := 252) d10005_252 rfl ?_
          refine je_iret (pc := 254) d10005_254 rfl ?_
          obtain ⟨y1, y2, y3, y4⟩ := e2.end (by omega) (hf false)
          refine ⟨-xx.1, rfl, ?_, ?_, ?_, e1, fun k' hk' rt => ?_⟩
          · show AB (sgn false * rbF (fun c => sgn false * gnF S R rem (!false) (dkL S R (wyI false) L c)) (okC_ L) (S.1.1 + 1)) lo hi _
            show AB (-1 * _) lo hi _; rw [Int.neg_one_mul]; have := y1.neg; rw [Int.neg_neg, Int.neg_neg] at this; exact this
          · omega
          · intro z; have := y2 z; omega
          · cases hk'
            omega
        · refine je_aload0 (pc := 246) d10005_246 rfl ?_
          refine je_iload (pc := 247) d10005_247 rfl ?_
          refine ju_puti (pc := 249) d10005_249 jF_10_98 rfl (sK79 H1) ?_
          refine je_iload (pc := 252) d10005_252 rfl ?_
          refine je_iret (pc := 254) d10005_254 rfl ?_
          obtain ⟨y1, y2, y3, y4⟩ := e2.end (by omega) (hf false)
          refine ⟨-xx.1, rfl, ?_, ?_, ?_, e1.wI (by omega), fun k' hk' rt => ?_⟩
          · show AB (sgn false * rbF (fun c => sgn false * gnF S R rem (!false) (dkL S R (wyI false) L c)) (okC_ L) (S.1.1 + 1)) lo hi _
            show AB (-1 * _) lo hi _; rw [Int.neg_one_mul]; have := y1.neg; rw [Int.neg_neg, Int.neg_neg] at this; exact this
          · omega
          · intro z; have := y2 z; omega
          · cases hk'
            rw [wI_at, jx_up_self]; exact y4 rt
    · have hg2 : g % 2 = 0 := of_decide_eq_true he.symm
      refine jx_tr jM_Co_gain rfl rfl (lv := [some (.ref 79), some (.int (nI g)), some (.int (nI (g + (rem + 1)))), some (.int (iZ lo)), some (.int (iZ hi)), none, none, none, none, none, none, none, none]) rfl ?_
      refine je_iload1 (pc := 0) d10005_0 rfl ?_
      refine je_iload2 (pc := 1) d10005_1 rfl ?_
      refine jn_icge (pc := 2) (a := (g)) (b := (g + (rem + 1))) 10 d10005_2 (by decide) (by omega) (by omega) (fun c2 => by exfalso; omega) (fun c2 => ?_)
      refine je_iload1 (pc := 5) d10005_5 rfl ?_
      refine je_iconst (pc := 6) (v := 4) d10005_6 rfl ?_
      refine jn_iclt (pc := 7) (a := (g)) (b := 4) 46 d10005_7 (by decide) (by omega) (by omega) (fun c7 => ?_) (fun c7 => by exfalso; omega)
      refine je_iload1 (pc := 46) d10005_46 rfl ?_
      refine je_iconst (pc := 47) (v := 2) d10005_47 rfl ?_
      refine je_irem (pc := 48) d10005_48 (by decide) ?_
      refine ju_eqi (v := nI (g % 2)) (pk_rem (d := 2) (by omega) (by decide) (by decide)) ?_
      refine jn_ifne (pc := 49) (a := (g % 2)) 56 d10005_49 (by decide) (by omega) (fun c49 => by exfalso; omega) (fun c49 => ?_)
      refine je_iconst (pc := 52) (v := 1) d10005_52 rfl ?_
      refine je_goto (pc := 53) 57 d10005_53 (by decide) ?_
      refine ju_istore (pc := 57) (lv' := [some _, some _, some _, some _, some _, some _, none, none, none, none, none, none, none]) d10005_57 rfl rfl ?_
      refine je_bipush (pc := 59) (v := -100) d10005_59 rfl ?_
      refine je_iload (pc := 61) d10005_61 rfl ?_
      refine je_imul (pc := 63) d10005_63 ?_
      refine ju_eqi (v := iZ (-100)) (by decide) ?_
      refine ju_istore (pc := 64) (lv' := [some _, some _, some _, some _, some _, some _, some _, none, none, none, none, none, none]) d10005_64 rfl rfl ?_
      refine je_iconst (pc := 66) (v := -1) d10005_66 rfl ?_
      refine ju_istore (pc := 67) (lv' := [some _, some _, some _, some _, some _, some _, some _, some _, none, none, none, none, none]) d10005_67 rfl rfl ?_
      refine je_iload3 (pc := 69) d10005_69 rfl ?_
      refine ju_eqi (v := iZ (imx lo (-100))) (by rw [imx_a hl.1]) ?_
      refine ju_istore (pc := 70) (lv' := [some _, some _, some _, some _, some _, some _, some _, some _, some _, none, none, none, none]) d10005_70 rfl rfl ?_
      refine je_iload (pc := 72) d10005_72 rfl ?_
      refine ju_istore (pc := 74) (lv' := [some _, some _, some _, some _, some _, some _, some _, some _, some _, some _, none, none, none]) d10005_74 rfl rfl ?_
      refine je_iconst (pc := 76) (v := -1) d10005_76 rfl ?_
      refine ju_istore (pc := 77) (lv' := [some _, some _, some _, some _, some _, some _, some _, some _, some _, some _, some _, none, none]) d10005_77 rfl rfl ?_
      refine je_loop (σ := Int × Int32 × Option Value × Option Value) (S.1.1 + 1) (fun k xx => [some (.ref 79), some (.int (nI g)), some (.int (nI (g + (rem + 1)))), some (.int (iZ lo)), some (.int (iZ hi)), some (.int 1), some (.int (iZ (xx.1))), some (.int xx.2.1), some (.int (iZ (imx lo xx.1))), some (.int (iZ hi)), some (.int (chV k)), xx.2.2.1, xx.2.2.2]) (fun k xx h' => fC (fun b => b = 65 ∨ b = 79 ∨ 82 + 5 * (g + 1) ≤ b ∧ b ≤ 106) h h' ∧ GJ (fun c => sgn true * gnF S R rem (!true) (dkL S R (wyI true) L c)) (okC_ L) lo hi S.1.2.1 (g = 0 ∧ lo = -(S.1.2.1 : Int) ∧ hi = (S.1.2.1 : Int)) k xx.1 xx.2.1) (fun k xx h' hk e kk => ?_) (fun xx h' e => ?_) (0) (-100, -1, none, none) h (by omega) ⟨fC.rf, Or.inl ⟨rfl, rfl, rfl⟩⟩
      · obtain ⟨e1, e2⟩ := e
        have H1 := e1.St H
        have C1 := C.fr e1 (fun b hb => olA (by omega))
        obtain ⟨s, c1, c2, c3, c4, -⟩ := id C1
        have L1 : rL h'.2.1 (82 + 5 * g) L := hL.of (fun b h1 h2 => e1.2 b (by omega))
        have bd := e2.bd hl
        refine je_iload (pc := 79) d10005_79 rfl ?_
        refine je_aload0 (pc := 81) d10005_81 rfl ?_
        refine ju_getr (pc := 82) (b := 51) d10005_82 jF_10_21 rfl (sK79 H1) (sR79_0 H1) ?_
        refine ju_getr (pc := 85) (b := s) d10005_85 jF_10_34 rfl (sK51 H1) c1 ?_
        refine ju_geti (pc := 88) d10005_88 jF_10_50 rfl c3.1.1 ?_
        refine ju_eqi (v := nI S.1.1) c4.1.1 ?_
        refine ju_icge (pc := 91) 242 d10005_91 (by decide) (fun c91 => absurd c91 (fun z => z ((chV_lt hk (by omega)).mpr trivial))) (fun c91 => ?_)
        refine je_iload (pc := 94) d10005_94 rfl ?_
        refine je_iconst (pc := 96) (v := -1) d10005_96 rfl ?_
        refine ju_tern2 (pc := 97) (V := b2 (k = 0)) 105 ?_ (fun jn97 => ?_)
        · refine ju_istore (pc := 105) (lv' := [some _, some _, some _, some _, some _, some _, some _, some _, some _, some _, some _, some _, _]) d10005_105 rfl rfl ?_
          refine je_iload (pc := 107) d10005_107 rfl ?_
          refine jb_ifne (pc := 109) 126 d10005_109 (by decide) (fun c109 => ?_) (fun c109 => ?_)
          · have okk : k = 0 ∨ okC_ L k = true := by first | exact Or.inl c109 | exact Or.inr (decide_eq_true (Or.inr (by rw [L1.2.2.2.2.1] at c123; exact c123)))
            refine je_aload0 (pc := 126) d10005_126 rfl ?_
            refine je_iload1 (pc := 127) d10005_127 rfl ?_
            refine je_iload (pc := 128) d10005_128 rfl ?_
            refine ju_tern1 (pc := 130) (V := nI (if k = 0 then 0 else k - 1)) 139 ?_ (fun jn130 => ?_)
            · refine je_iload (pc := 139) d10005_139 rfl ?_
              refine ju_tern1 (pc := 141) (V := (if k = 0 then 0 else 1)) 150 ?_ (fun jn141 => ?_)
              · refine ju_callv (pc := 150) (as := [_, _, _]) d10005_150 jL_10_46 jM_Co_goOn rfl (by decide) (sK79 H1) rfl (by exact Nat.le_of_ble_eq_true rfl) (t_Co_goOn (d + rem + 1) (k := g) (m := if k = 0 then 0 else k - 1) H1 C1 wS h0 (by omega) L1 hN (by omega) (by split <;> omega) _) (fun r150 h150 q150 => ?_)
                obtain ⟨rfl, f1, f2⟩ := q150
                have H2 := f1.St H1
                have g1 : fC (fun b => b = 65 ∨ b = 79 ∨ 82 + 5 * (g + 1) ≤ b ∧ b ≤ 106) h h150 := e1.tr (f1.mo (fun b hb => by omega))
                have es : nxF S R (mvL (if k = 0 then 0 else k - 1) (if k = 0 then 0 else 1) L) = dkL S R 1 L k := by
                  unfold dkL
                  by_cases z : k = 0
                  · rw [if_pos z, if_pos z, if_pos z, mv_id (wl.1 0 (by decide)).1]
                  · rw [if_neg z, if_neg z, if_neg z]
                rw [es] at f2
                have dkn : (dkL S R 1 L k).2.2.2.2.2 = nI (nn + 1) := by
                  rw [← es]
                  show L.2.2.2.2.2 + 1 = _
                  rw [hN, nI_1]
                have dkw : wfL (nl + 1) S.1.1 S.1.2.1 (dkL S R 1 L k) := by
                  rw [← es]
                  exact wfL.night hmi (by omega) (warmF_bd wS _) wl.mv
                have dke : (!true) = decide ((g + 1) % 2 = 0) := by
                  show false = _
                  exact (decide_eq_false (by omega)).symm
                refine je_aload0 (pc := 153) d10005_153 rfl ?_
                refine je_iload1 (pc := 154) d10005_154 rfl ?_
                refine je_iconst (pc := 155) (v := 1) d10005_155 rfl ?_
                refine je_iadd (pc := 156) d10005_156 ?_
                refine ju_eqi (v := nI ((g) + 1)) (nI_add (g) 1) ?_
                refine je_iload2 (pc := 157) d10005_157 rfl ?_
                refine je_iload (pc := 158) d10005_158 rfl ?_
                refine je_iload (pc := 160) d10005_160 rfl ?_
                refine ju_callv (pc := 162) (as := [_, _, _, _]) d10005_162 jL_10_69 jM_Co_gain rfl (by decide) (sK79 H2) rfl (by exact Nat.le_of_ble_eq_true rfl) (by have := ih d (h := h150) (L := dkL S R 1 L k) (nn := nn + 1) (nl := nl + 1) (g := g + 1) (lo := imx lo xx.1) (hi := hi) (e := !true) (bc := 0) (bs := 0) H2 (C.fr g1 (fun b hb => olA (by omega))) (by omega) f2 dkn (by omega) dkw (by omega) dke (by omega) (by omega) (e2.w hl.1 hw); rw [show g + 1 + rem = g + (rem + 1) by omega] at this; exact this) (fun r162 h162 q162 => ?_)
                obtain ⟨x, rfl, a1, a2, a3, a4, -⟩ := q162
                have H3 := a4.St H2
                have ab : AB ((fun c => sgn true * gnF S R rem (!true) (dkL S R (wyI true) L c)) k) (imx lo xx.1) hi x := by
                  show AB (1 * gnF S R rem false (dkL S R 1 L k)) _ _ _
                  rw [Int.one_mul]
                  exact a1
                have yb := e2.yb hl hh (hf true) w8 ab
                have mb := e2.mx hl hh (hf true) w8 ab
                have g2 : fC (fun b => b = 65 ∨ b = 79 ∨ 82 + 5 * (g + 1) ≤ b ∧ b ≤ 106) h h162 := g1.tr (a4.mo (fun b hb => by omega))
                obtain ⟨st1, st2⟩ := e2.step hl hh (hf true) w8 hw (fun r => ⟨r.2.1, r.2.2⟩) okk ab (fun z => by have := a3 z; omega)
                have ib : -8 ≤ imx lo (imx xx.1 x) ∧ imx lo (imx xx.1 x) ≤ 8 := by unfold imx; split <;> (first | omega | (unfold imx at mb; split at mb <;> omega))
                refine ju_istore (pc := 165) (lv' := [some _, some _, some _, some _, some _, some _, some _, some _, some _, some _, some _, some _, some _]) d10005_165 rfl rfl ?_
                refine je_iload (pc := 167) d10005_167 rfl ?_
                refine je_iload (pc := 169) d10005_169 rfl ?_
                refine je_imul (pc := 171) d10005_171 ?_
                refine ju_eqi (v := iZ x) (mul1 _) ?_
                refine je_iload (pc := 172) d10005_172 rfl ?_
                refine je_iload (pc := 174) d10005_174 rfl ?_
                refine je_imul (pc := 176) d10005_176 ?_
                refine ju_eqi (v := iZ xx.1) (mul1 _) ?_
                refine ju_icle (pc := 177) 188 d10005_177 (by decide) (fun c177 => ?_) (fun c177 => ?_)
                · refine je_iload (pc := 188) d10005_188 rfl ?_
                  refine jn_ifle (pc := 190) (a := 1) 203 d10005_190 (by decide) (by omega) (fun c190 => by exfalso; omega) (fun c190 => ?_)
                  refine je_iload (pc := 193) d10005_193 rfl ?_
                  refine je_iload (pc := 195) d10005_195 rfl ?_
                  refine ju_eqi (v := iZ (imx xx.1 x)) (by first | exact (bx_t (by omega) (by omega) (by omega) (by omega) c177) | exact (bx_f (by omega) (by omega) (by omega) (by omega) c177)) ?_
                  refine je_mmax (pc := 197) d10005_197 jLm_10_89 (by exact Nat.le_of_ble_eq_true rfl) ?_
                  refine ju_eqi (v := iZ (imx lo (imx xx.1 x))) ((mxZ (by omega) (by omega) (by omega) (by omega)).trans (by rw [imx_as])) ?_
                  refine je_goto (pc := 200) 205 d10005_200 (by decide) ?_
                  refine ju_istore (pc := 205) (lv' := [some _, some _, some _, some _, some _, some _, some _, some _, some _, some _, some _, some _, some _]) d10005_205 rfl rfl ?_
                  refine je_iload (pc := 207) d10005_207 rfl ?_
                  refine jn_ifge (pc := 209) (a := 1) 222 d10005_209 (by decide) (by omega) (fun c209 => ?_) (fun c209 => by exfalso; omega)
                  refine je_iload (pc := 222) d10005_222 rfl ?_
                  refine ju_istore (pc := 224) (lv' := [some _, some _, some _, some _, some _, some _, some _, some _, some _, some _, some _, some _, some _]) d10005_224 rfl rfl ?_
                  refine je_iload (pc := 226) d10005_226 rfl ?_
                  refine je_iload (pc := 228) d10005_228 rfl ?_
                  refine je_iclt (pc := 230) 236 d10005_230 (by decide) (fun c230 => ?_) (fun c230 => ?_)
                  · refine ju_inc (pc := 236) (y := 1) (lv' := [some _, some _, some _, some _, some _, some _, some _, some _, some _, some _, some _, some _, some _]) d10005_236 rfl rfl rfl ?_
                    refine je_goto (pc := 239) 79 d10005_239 (by decide) ?_
                    have eb : iZ (xx.1) = iZ (imx xx.1 x) := bx_f (by omega) (by omega) (by omega) (by omega) c177
                    have gj := st1 (by have := (iZ_lt (by omega) (by omega) (by omega) (by omega)).mp c230; omega)
                    rw [if_neg (show ¬ xx.1 < x from fun z => c177 ((iZ_lt (by omega) (by omega) (by omega) (by omega)).mpr z))] at gj
                    rw [eb, chV_i (by omega)]
                    exact kk (_, _, some _, some _) _ ⟨g2, gj⟩
                  · refine je_goto (pc := 233) 242 d10005_233 (by decide) ?_
                    refine je_iload1 (pc := 242) d10005_242 rfl ?_
                    refine jn_ifne (pc := 243) (a := (g)) 252 d10005_243 (by decide) (by omega) (fun c243 => ?_) (fun c243 => ?_)
                    · refine je_iload (pc := 252) d10005_252 rfl ?_
                      refine ju_eqi (v := iZ (imx xx.1 x)) (by first | exact (bx_t (by omega) (by omega) (by omega) (by omega) c177) | exact (bx_f (by omega) (by omega) (by omega) (by omega) c177)) ?_
                      refine je_iret (pc := 254) d10005_254 rfl ?_
                      obtain ⟨z0, z1, -, z3⟩ := st2 (by have : ¬ _ := fun z => c230 ((iZ_lt (by omega) (by omega) (by omega) (by omega)).mpr z); omega)
                      obtain ⟨y1, y2, y3, y4⟩ := GJ.br (N := S.1.1 + 1) (by omega) hl hw (hf true) (fun r => ⟨r.2.1, r.2.2⟩) mb z0 z1 z3
                      refine ⟨imx xx.1 x, rfl, ?_, ?_, ?_, g2, fun k' hk' rt => ?_⟩
                      · show AB (sgn true * rbF (fun c => sgn true * gnF S R rem (!true) (dkL S R (wyI true) L c)) (okC_ L) (S.1.1 + 1)) lo hi _
                        show AB (1 * _) lo hi _; rw [Int.one_mul]; exact y1
                      · omega
                      · intro z; have := y2 z; omega
                      · cases hk'
                        omega
                    · refine je_aload0 (pc := 246) d10005_246 rfl ?_
                      refine je_iload (pc := 247) d10005_247 rfl ?_
                      refine ju_puti (pc := 249) d10005_249 jF_10_98 rfl (sK79 H3) ?_
                      refine je_iload (pc := 252) d10005_252 rfl ?_
                      refine ju_eqi (v := iZ (imx xx.1 x)) (by first | exact (bx_t (by omega) (by omega) (by omega) (by omega) c177) | exact (bx_f (by omega) (by omega) (by omega) (by omega) c177)) ?_
                      refine je_iret (pc := 254) d10005_254 rfl ?_
                      obtain ⟨z0, z1, -, z3⟩ := st2 (by have : ¬ _ := fun z => c230 ((iZ_lt (by omega) (by omega) (by omega) (by omega)).mpr z); omega)
                      obtain ⟨y1, y2, y3, y4⟩ := GJ.br (N := S.1.1 + 1) (by omega) hl hw (hf true) (fun r => ⟨r.2.1, r.2.2⟩) mb z0 z1 z3
                      refine ⟨imx xx.1 x, rfl, ?_, ?_, ?_, g2.wI (by omega), fun k' hk' rt => ?_⟩
                      · show AB (sgn true * rbF (fun c => sgn true * gnF S R rem (!true) (dkL S R (wyI true) L c)) (okC_ L) (S.1.1 + 1)) lo hi _
                        show AB (1 * _) lo hi _; rw [Int.one_mul]; exact y1
                      · omega
                      · intro z; have := y2 z; omega
                      · cases hk'
                        rw [wI_at, jx_up_self]; have := y4 rt; rw [if_neg (show ¬ xx.1 < x from fun z => c177 ((iZ_lt (by omega) (by omega) (by omega) (by omega)).mpr z))] at this; exact this
                · refine je_iload (pc := 180) d10005_180 rfl ?_
                  refine ju_istore (pc := 182) (lv' := [some _, some _, some _, some _, some _, some _, some _, some _, some _, some _, some _, some _, some _]) d10005_182 rfl rfl ?_
                  refine je_iload (pc := 184) d10005_184 rfl ?_
                  refine ju_istore (pc := 186) (lv' := [some _, some _, some _, some _, some _, some _, some _, some _, some _, some _, some _, some _, some _]) d10005_186 rfl rfl ?_
                  refine je_iload (pc := 188) d10005_188 rfl ?_
                  refine jn_ifle (pc := 190) (a := 1) 203 d10005_190 (by decide) (by omega) (fun c190 => by exfalso; omega) (fun c190 => ?_)
                  refine je_iload (pc := 193) d10005_193 rfl ?_
                  refine je_iload (pc := 195) d10005_195 rfl ?_
                  refine ju_eqi (v := iZ (imx xx.1 x)) (by first | exact (bx_t (by omega) (by omega) (by omega) (by omega) c177) | exact (bx_f (by omega) (by omega) (by omega) (by omega) c177)) ?_
                  refine je_mmax (pc := 197) d10005_197 jLm_10_89 (by exact Nat.le_of_ble_eq_true rfl) ?_
                  refine ju_eqi (v := iZ (imx lo (imx xx.1 x))) ((mxZ (by omega) (by omega) (by omega) (by omega)).trans (by rw [imx_as])) ?_
                  refine je_goto (pc := 200) 205 d10005_200 (by decide) ?_
                  refine ju_istore (pc := 205) (lv' := [some _, some _, some _, some _, some _, some _, some _, some _, some _, some _, some _, some _, some _]) d10005_205 rfl rfl ?_
                  refine je_iload (pc := 207) d10005_207 rfl ?_
                  refine jn_ifge (pc := 209) (a := 1) 222 d10005_209 (by decide) (by omega) (fun c209 => ?_) (fun c209 => by exfalso; omega)
                  refine je_iload (pc := 222) d10005_222 rfl ?_
                  refine ju_istore (pc := 224) (lv' := [some _, some _, some _, some _, some _, some _, some _, some _, some _, some _, some _, some _, some _]) d10005_224 rfl rfl ?_
                  refine je_iload (pc := 226) d10005_226 rfl ?_
                  refine je_iload (pc := 228) d10005_228 rfl ?_
                  refine je_iclt (pc := 230) 236 d10005_230 (by decide) (fun c230 => ?_) (fun c230 => ?_)
                  · refine ju_inc (pc := 236) (y := 1) (lv' := [some _, some _, some _, some _, some _, some _, some _, some _, some _, some _, some _, some _, some _]) d10005_236 rfl rfl rfl ?_
                    refine je_goto (pc := 239) 79 d10005_239 (by decide) ?_
                    have eb : iZ (x) = iZ (imx xx.1 x) := bx_t (by omega) (by omega) (by omega) (by omega) c177
                    have gj := st1 (by have := (iZ_lt (by omega) (by omega) (by omega) (by omega)).mp c230; omega)
                    rw [if_pos (show xx.1 < x from (iZ_lt (by omega) (by omega) (by omega) (by omega)).mp c177)] at gj
                    rw [eb, chV_i (by omega)]
                    exact kk (_, _, some _, some _) _ ⟨g2, gj⟩
                  · refine je_goto (pc := 233) 242 d10005_233 (by decide) ?_
                    refine je_iload1 (pc := 242) d10005_242 rfl ?_
                    refine jn_ifne (pc := 243) (a := (g)) 252 d10005_243 (by decide) (by omega) (fun c243 => ?_) (fun c243 => ?_)
                    · refine je_iload (pc := 252) d10005_252 rfl ?_
                      refine ju_eqi (v := iZ (imx xx.1 x)) (by first | exact (bx_t (by omega) (by omega) (by omega) (by omega) c177) | exact (bx_f (by omega) (by omega) (by omega) (by omega) c177)) ?_
                      refine je_iret (pc := 254) d10005_254 rfl ?_
                      obtain ⟨z0, z1, -, z3⟩ := st2 (by have : ¬ _ := fun z => c230 ((iZ_lt (by omega) (by omega) (by omega) (by omega)).mpr z); omega)
                      obtain ⟨y1, y2, y3, y4⟩ := GJ.br (N := S.1.1 + 1) (by omega) hl hw (hf true) (fun r => ⟨r.2.1, r.2.2⟩) mb z0 z1 z3
                      refine ⟨imx xx.1 x, rfl, ?_, ?_, ?_, g2, fun k' hk' rt => ?_⟩
                      · show AB (sgn true * rbF (fun c => sgn true * gnF S R rem (!true) (dkL S R (wyI true) L c)) (okC_ L) (S.1.1 + 1)) lo hi _
                        show AB (1 * _) lo hi _; rw [Int.one_mul]; exact y1
                      · omega
                      · intro z; have := y2 z; omega
                      · cases hk'
                        omega
                    · refine je_aload0 (pc := 246) d10005_246 rfl ?_
                      refine je_iload (pc := 247) d10005_247 rfl ?_
                      refine ju_puti (pc := 249) d10005_249 jF_10_98 rfl (sK79 H3) ?_
                      refine je_iload (pc := 252) d10005_252 rfl ?_
                      refine ju_eqi (v := iZ (imx xx.1 x)) (by first | exact (bx_t (by omega) (by omega) (by omega) (by omega) c177) | exact (bx_f (by omega) (by omega) (by omega) (by omega) c177)) ?_
                      refine je_iret (pc := 254) d10005_254 rfl ?_
                      obtain ⟨z0, z1, -, z3⟩ := st2 (by have : ¬ _ := fun z => c230 ((iZ_lt (by omega) (by omega) (by omega) (by omega)).mpr z); omega)
                      obtain ⟨y1, y2, y3, y4⟩ := GJ.br (N := S.1.1 + 1) (by omega) hl hw (hf true) (fun r => ⟨r.2.1, r.2.2⟩) mb z0 z1 z3
                      refine ⟨imx xx.1 x, rfl, ?_, ?_, ?_, g2.wI (by omega), fun k' hk' rt => ?_⟩
                      · show AB (sgn true * rbF (fun c => sgn true * gnF S R rem (!true) (dkL S R (wyI true) L c)) (okC_ L) (S.1.1 + 1)) lo hi _
                        show AB (1 * _) lo hi _; rw [Int.one_mul]; exact y1
                      · omega
                      · intro z; have := y2 z; omega
                      · cases hk'
                        rw [wI_at, jx_up_self]; have := y4 rt; rw [if_pos (show xx.1 < x from (iZ_lt (by omega) (by omega) (by omega) (by omega)).mp c177)] at this; exact this
              · refine jb_ifeq (pc := 141) 148 d10005_141 (by decide) (fun c141 => ?_) (fun c141 => ?_)
                · refine je_iload (pc := 148) d10005_148 rfl ?_
                  refine ju_eqi (v := (if k = 0 then 0 else 1)) (by rw [if_neg c141]) ?_
                  exact jn141
                · refine je_iconst (pc := 144) (v := 0) d10005_144 rfl ?_
                  refine je_goto (pc := 145) 150 d10005_145 (by decide) ?_
                  refine ju_eqi (v := (if k = 0 then 0 else 1)) (by rw [if_pos c141]) ?_
                  exact jn141
            · refine jb_ifeq (pc := 130) 137 d10005_130 (by decide) (fun c130 => ?_) (fun c130 => ?_)
              · refine je_iload (pc := 137) d10005_137 rfl ?_
                refine ju_eqi (v := nI (if k = 0 then 0 else k - 1)) (by rw [if_neg c130]; exact chV_n c130) ?_
                exact jn130
              · refine je_iconst (pc := 133) (v := 0) d10005_133 rfl ?_
                refine je_goto (pc := 134) 139 d10005_134 (by decide) ?_
                refine ju_eqi (v := nI (if k = 0 then 0 else k - 1)) (by rw [if_pos c130]; rfl) ?_
                exact jn130
          · refine je_aload0 (pc := 112) d10005_112 rfl ?_
            refine ju_getr (pc := 113) (b := 80) d10005_113 jF_10_11 rfl (sK79 H1) (sR79_1 H1) ?_
            refine je_iload1 (pc := 116) d10005_116 rfl ?_
            refine je_aald (pc := 117) d10005_117 (by decide) (sK80 H1) (vp_in_nI (by omega) (by decide)) (v := .ref (82 + 5 * g)) (r80 H1 (by omega)) ?_
            refine je_iload (pc := 118) d10005_118 rfl ?_
            refine ju_eqi (v := nI (k - 1)) (chV_n c109) ?_
            refine ju_callv (pc := 120) (as := [_]) d10005_120 jL_10_54 jM_La_isBaked rfl (by decide) (lA_La H1 (ln_A (by omega))).1 rfl (by exact Nat.le_of_ble_eq_true rfl) (t_La_isBaked (d + rem + 5) (a := 82 + 5 * g) (lA_La H1 (ln_A (by omega))) _) (fun r120 h120 q120 => ?_)
            obtain ⟨rfl, e120⟩ := q120
            obtain rfl := e120.symm
            refine jb_ifne (pc := 123) 236 d10005_123 (by decide) (fun c123 => ?_) (fun c123 => ?_)
            · refine ju_inc (pc := 236) (y := 1) (lv' := [some _, some _, some _, some _, some _, some _, some _, some _, some _, some _, some _, some _, _]) d10005_236 rfl rfl rfl ?_
              refine je_goto (pc := 239) 79 d10005_239 (by decide) ?_
              rw [chV_i (by omega)]
              exact kk (xx.1, xx.2.1, some _, xx.2.2.2) _ ⟨e1, e2.skip (by omega) (decide_eq_false (fun q => q.elim c109 (fun y => y (by rw [L1.2.2.2.2.1] at c123; exact c123))))⟩
            · have okk : k = 0 ∨ okC_ L k = true := by first | exact Or.inl c109 | exact Or.inr (decide_eq_true (Or.inr (by rw [L1.2.2.2.2.1] at c123; exact c123)))
              refine je_aload0 (pc := 126) d10005_126 rfl ?_
              refine je_iload1 (pc := 127) d10005_127 rfl ?_
              refine je_iload (pc := 128) d10005_128 rfl ?_
              refine ju_tern1 (pc := 130) (V := nI (if k = 0 then 0 else k - 1)) 139 ?_ (fun jn130 => ?_)
              · refine je_iload (pc := 139) d10005_139 rfl ?_
                refine ju_tern1 (pc := 141) (V := (if k = 0 then 0 else 1)) 150 ?_ (fun jn141 => ?_)
                · refine ju_callv (pc := 150) (as := [_, _, _]) d10005_150 jL_10_46 jM_Co_goOn rfl (by decide) (sK79 H1) rfl (by exact Nat.le_of_ble_eq_true rfl) (t_Co_goOn (d + rem + 1) (k := g) (m := if k = 0 then 0 else k - 1) H1 C1 wS h0 (by omega) L1 hN (by omega) (by split <;> omega) _) (fun r150 h150 q150 => ?_)
                  obtain ⟨rfl, f1, f2⟩ := q150
                  have H2 := f1.St H1
                  have g1 : fC (fun b => b = 65 ∨ b = 79 ∨ 82 + 5 * (g + 1) ≤ b ∧ b ≤ 106) h h150 := e1.tr (f1.mo (fun b hb => by omega))
                  have es : nxF S R (mvL (if k = 0 then 0 else k - 1) (if k = 0 then 0 else 1) L) = dkL S R 1 L k := by
                    unfold dkL
                    by_cases z : k = 0
                    · rw [if_pos z, if_pos z, if_pos z, mv_id (wl.1 0 (by decide)).1]
                    · rw [if_neg z, if_neg z, if_neg z]
                  rw [es] at f2
                  have dkn : (dkL S R 1 L k).2.2.2.2.2 = nI (nn + 1) := by
                    rw [← es]
                    show L.2.2.2.2.2 + 1 = _
                    rw [hN, nI_1]
                  have dkw : wfL (nl + 1) S.1.1 S.1.2.1 (dkL S R 1 L k) := by
                    rw [← es]
                    exact wfL.night hmi (by omega) (warmF_bd wS _) wl.mv
                  have dke : (!true) = decide ((g + 1) % 2 = 0) := by
                    show false = _
                    exact (decide_eq_false (by omega)).symm
                  refine je_aload0 (pc := 153) d10005_153 rfl ?_
                  refine je_iload1 (pc := 154) d10005_154 rfl ?_
                  refine je_iconst (pc := 155) (v := 1) d10005_155 rfl ?_
                  refine je_iadd (pc := 156) d10005_156 ?_
                  refine ju_eqi (v := nI ((g) + 1)) (nI_add (g) 1) ?_
                  refine je_iload2 (pc := 157) d10005_157 rfl ?_
                  refine je_iload (pc := 158) d10005_158 rfl ?_
                  refine je_iload (pc := 160) d10005_160 rfl ?_
                  refine ju_callv (pc := 162) (as := [_, _, _, _]) d10005_162 jL_10_69 jM_Co_gain rfl (by decide) (sK79 H2) rfl (by exact Nat.le_of_ble_eq_true rfl) (by have := ih d (h := h150) (L := dkL S R 1 L k) (nn := nn + 1) (nl := nl + 1) (g := g + 1) (lo := imx lo xx.1) (hi := hi) (e := !true) (bc := 0) (bs := 0) H2 (C.fr g1 (fun b hb => olA (by omega))) (by omega) f2 dkn (by omega) dkw (by omega) dke (by omega) (by omega) (e2.w hl.1 hw); rw [show g + 1 + rem = g + (rem + 1) by omega] at this; exact this) (fun r162 h162 q162 => ?_)
                  obtain ⟨x, rfl, a1, a2, a3, a4, -⟩ := q162
                  have H3 := a4.St H2
                  have ab : AB ((fun c => sgn true * gnF S R rem (!true) (dkL S R (wyI true) L c)) k) (imx lo xx.1) hi x := by
                    show AB (1 * gnF S R rem false (dkL S R 1 L k)) _ _ _
                    rw [Int.one_mul]
                    exact a1
                  have yb := e2.yb hl hh (hf true) w8 ab
                  have mb := e2.mx hl hh (hf true) w8 ab
                  have g2 : fC (fun b => b = 65 ∨ b = 79 ∨ 82 + 5 * (g + 1) ≤ b ∧ b ≤ 106) h h162 := g1.tr (a4.mo (fun b hb => by omega))
                  obtain ⟨st1, st2⟩ := e2.step hl hh (hf true) w8 hw (fun r => ⟨r.2.1, r.2.2⟩) okk ab (fun z => by have := a3 z; omega)
                  have ib : -8 ≤ imx lo (imx xx.1 x) ∧ imx lo (imx xx.1 x) ≤ 8 := by unfold imx; split <;> (first | omega | (unfold imx at mb; split at mb <;> omega))
                  refine ju_istore (pc := 165) (lv' := [some _, some _, some _, some _, some _, some _, some _, some _, some _, some _, some _, some _, some _]) d10005_165 rfl rfl ?_
                  refine je_iload (pc := 167) d10005_167 rfl ?_
                  refine je_iload (pc := 169) d10005_169 rfl ?_
                  refine je_imul (pc := 171) d10005_171 ?_
                  refine ju_eqi (v := iZ x) (mul1 _) ?_
                  refine je_iload (pc := 172) d10005_172 rfl ?_
                  refine je_iload (pc := 174) d10005_174 rfl ?_
                  refine je_imul (pc := 176) d10005_176 ?_
                  refine ju_eqi (v := iZ xx.1) (mul1 _) ?_
                  refine ju_icle (pc := 177) 188 d10005_177 (by decide) (fun c177 => ?_) (fun c177 => ?_)
                  · refine je_iload (pc := 188) d10005_188 rfl ?_
                    refine jn_ifle (pc := 190) (a := 1) 203 d10005_190 (by decide) (by omega) (fun c190 => by exfalso; omega) (fun c190 => ?_)
                    refine je_iload (pc := 193) d10005_193 rfl ?_
                    refine je_iload (pc := 195) d10005_195 rfl ?_
                    refine ju_eqi (v := iZ (imx xx.1 x)) (by first | exact (bx_t (by omega) (by omega) (by omega) (by omega) c177) | exact (bx_f (by omega) (by omega) (by omega) (by omega) c177)) ?_
                    refine je_mmax (pc := 197) d10005_197 jLm_10_89 (by exact Nat.le_of_ble_eq_true rfl) ?_
                    refine ju_eqi (v := iZ (imx lo (imx xx.1 x))) ((mxZ (by omega) (by omega) (by omega) (by omega)).trans (by rw [imx_as])) ?_
                    refine je_goto (pc := 200) 205 d10005_200 (by decide) ?_
                    refine ju_istore (pc := 205) (lv' := [some _, some _, some _, some _, some _, some _, some _, some _, some _, some _, some _, some _, some _]) d10005_205 rfl rfl ?_
                    refine je_iload (pc := 207) d10005_207 rfl ?_
                    refine jn_ifge (pc := 209) (a := 1) 222 d10005_209 (by decide) (by omega) (fun c209 => ?_) (fun c209 => by exfalso; omega)
                    refine je_iload (pc := 222) d10005_222 rfl ?_
                    refine ju_istore (pc := 224) (lv' := [some _, some _, some _, some _, some _, some _, some _, some _, some _, some _, some _, some _, some _]) d10005_224 rfl rfl ?_
                    refine je_iload (pc := 226) d10005_226 rfl ?_
                    refine je_iload (pc := 228) d10005_228 rfl ?_
                    refine je_iclt (pc := 230) 236 d10005_230 (by decide) (fun c230 => ?_) (fun c230 => ?_)
                    · refine ju_inc (pc := 236) (y := 1) (lv' := [some _, some _, some _, some _, some _, some _, some _, some _, some _, some _, some _, some _, some _]) d10005_236 rfl rfl rfl ?_
                      refine je_goto (pc := 239) 79 d10005_239 (by decide) ?_
                      have eb : iZ (xx.1) = iZ (imx xx.1 x) := bx_f (by omega) (by omega) (by omega) (by omega) c177
                      have gj := st1 (by have := (iZ_lt (by omega) (by omega) (by omega) (by omega)).mp c230; omega)
                      rw [if_neg (show ¬ xx.1 < x from fun z => c177 ((iZ_lt (by omega) (by omega) (by omega) (by omega)).mpr z))] at gj
                      rw [eb, chV_i (by omega)]
                      exact kk (_, _, some _, some _) _ ⟨g2, gj⟩
                    · refine je_goto (pc := 233) 242 d10005_233 (by decide) ?_
                      refine je_iload1 (pc := 242) d10005_242 rfl ?_
                      refine jn_ifne (pc := 243) (a := (g)) 252 d10005_243 (by decide) (by omega) (fun c243 => ?_) (fun c243 => ?_)
                      · refine je_iload (pc := 252) d10005_252 rfl ?_
                        refine ju_eqi (v := iZ (imx xx.1 x)) (by first | exact (bx_t (by omega) (by omega) (by omega) (by omega) c177) | exact (bx_f (by omega) (by omega) (by omega) (by omega) c177)) ?_
                        refine je_iret (pc := 254) d10005_254 rfl ?_
                        obtain ⟨z0, z1, -, z3⟩ := st2 (by have : ¬ _ := fun z => c230 ((iZ_lt (by omega) (by omega) (by omega) (by omega)).mpr z); omega)
                        obtain ⟨y1, y2, y3, y4⟩ := GJ.br (N := S.1.1 + 1) (by omega) hl hw (hf true) (fun r => ⟨r.2.1, r.2.2⟩) mb z0 z1 z3
                        refine ⟨imx xx.1 x, rfl, ?_, ?_, ?_, g2, fun k' hk' rt => ?_⟩
                        · show AB (sgn true * rbF (fun c => sgn true * gnF S R rem (!true) (dkL S R (wyI true) L c)) (okC_ L) (S.1.1 + 1)) lo hi _
                          show AB (1 * _) lo hi _; rw [Int.one_mul]; exact y1
                        · omega
                        · intro z; have := y2 z; omega
                        · cases hk'
                          omega
                      · refine je_aload0 (pc := 246) d10005_246 rfl ?_
                        refine je_iload (pc := 247) d10005_247 rfl ?_
                        refine ju_puti (pc := 249) d10005_249 jF_10_98 rfl (sK79 H3) ?_
                        refine je_iload (pc := 252) d10005_252 rfl ?_
                        refine ju_eqi (v := iZ (imx xx.1 x)) (by first | exact (bx_t (by omega) (by omega) (by omega) (by omega) c177) | exact (bx_f (by omega) (by omega) (by omega) (by omega) c177)) ?_
                        refine je_iret (pc := 254) d10005_254 rfl ?_
                        obtain ⟨z0, z1, -, z3⟩ := st2 (by have : ¬ _ := fun z => c230 ((iZ_lt (by omega) (by omega) (by omega) (by omega)).mpr z); omega)
                        obtain ⟨y1, y2, y3, y4⟩ := GJ.br (N := S.1.1 + 1) (by omega) hl hw (hf true) (fun r => ⟨r.2.1, r.2.2⟩) mb z0 z1 z3
                        refine ⟨imx xx.1 x, rfl, ?_, ?_, ?_, g2.wI (by omega), fun k' hk' rt => ?_⟩
                        · show AB (sgn true * rbF (fun c => sgn true * gnF S R rem (!true) (dkL S R (wyI true) L c)) (okC_ L) (S.1.1 + 1)) lo hi _
                          show AB (1 * _) lo hi _; rw [Int.one_mul]; exact y1
                        · omega
                        · intro z; have := y2 z; omega
                        · cases hk'
                          rw [wI_at, jx_up_self]; have := y4 rt; rw [if_neg (show ¬ xx.1 < x from fun z => c177 ((iZ_lt (by omega) (by omega) (by omega) (by omega)).mpr z))] at this; exact this
                  · refine je_iload (pc := 180) d10005_180 rfl ?_
                    refine ju_istore (pc := 182) (lv' := [some _, some _, some _, some _, some _, some _, some _, some _, some _, some _, some _, some _, some _]) d10005_182 rfl rfl ?_
                    refine je_iload (pc := 184) d10005_184 rfl ?_
                    refine ju_istore (pc := 186) (lv' := [some _, some _, some _, some _, some _, some _, some _, some _, some _, some _, some _, some _, some _]) d10005_186 rfl rfl ?_
                    refine je_iload (pc := 188) d10005_188 rfl ?_
                    refine jn_ifle (pc := 190) (a := 1) 203 d10005_190 (by decide) (by omega) (fun c190 => by exfalso; omega) (fun c190 => ?_)
                    refine je_iload (pc := 193) d10005_193 rfl ?_
                    refine je_iload (pc := 195) d10005_195 rfl ?_
                    refine ju_eqi (v := iZ (imx xx.1 x)) (by first | exact (bx_t (by omega) (by omega) (by omega) (by omega) c177) | exact (bx_f (by omega) (by omega) (by omega) (by omega) c177)) ?_
                    refine je_mmax (pc := 197) d10005_197 jLm_10_89 (by exact Nat.le_of_ble_eq_true rfl) ?_
                    refine ju_eqi (v := iZ (imx lo (imx xx.1 x))) ((mxZ (by omega) (by omega) (by omega) (by omega)).trans (by rw [imx_as])) ?_
                    refine je_goto (pc := 200) 205 d10005_200 (by decide) ?_
                    refine ju_istore (pc := 205) (lv' := [some _, some _, some _, some _, some _, some _, some _, some _, some _, some _, some _, some _, some _]) d10005_205 rfl rfl ?_
                    refine je_iload (pc := 207) d10005_207 rfl ?_
                    refine jn_ifge (pc := 209) (a := 1) 222 d10005_209 (by decide) (by omega) (fun c209 => ?_) (fun c209 => by exfalso; omega)
                    refine je_iload (pc := 222) d10005_222 rfl ?_
                    refine ju_istore (pc := 224) (lv' := [some _, some _, some _, some _, some _, some _, some _, some _, some _, some _, some _, some _, some _]) d10005_224 rfl rfl ?_
                    refine je_iload (pc := 226) d10005_226 rfl ?_
                    refine je_iload (pc := 228) d10005_228 rfl ?_
                    refine je_iclt (pc := 230) 236 d10005_230 (by decide) (fun c230 => ?_) (fun c230 => ?_)
                    · refine ju_inc (pc := 236) (y := 1) (lv' := [some _, some _, some _, some _, some _, some _, some _, some _, some _, some _, some _, some _, some _]) d10005_236 rfl rfl rfl ?_
                      refine je_goto (pc := 239) 79 d10005_239 (by decide) ?_
                      have eb : iZ (x) = iZ (imx xx.1 x) := bx_t (by omega) (by omega) (by omega) (by omega) c177
                      have gj := st1 (by have := (iZ_lt (by omega) (by omega) (by omega) (by omega)).mp c230; omega)
                      rw [if_pos (show xx.1 < x from (iZ_lt (by omega) (by omega) (by omega) (by omega)).mp c177)] at gj
                      rw [eb, chV_i (by omega)]
                      exact kk (_, _, some _, some _) _ ⟨g2, gj⟩
                    · refine je_goto (pc := 233) 242 d10005_233 (by decide) ?_
                      refine je_iload1 (pc := 242) d10005_242 rfl ?_
                      refine jn_ifne (pc := 243) (a := (g)) 252 d10005_243 (by decide) (by omega) (fun c243 => ?_) (fun c243 => ?_)
                      · refine je_iload (pc := 252) d10005_252 rfl ?_
                        refine ju_eqi (v := iZ (imx xx.1 x)) (by first | exact (bx_t (by omega) (by omega) (by omega) (by omega) c177) | exact (bx_f (by omega) (by omega) (by omega) (by omega) c177)) ?_
                        refine je_iret (pc := 254) d10005_254 rfl ?_
                        obtain ⟨z0, z1, -, z3⟩ := st2 (by have : ¬ _ := fun z => c230 ((iZ_lt (by omega) (by omega) (by omega) (by omega)).mpr z); omega)
                        obtain ⟨y1, y2, y3, y4⟩ := GJ.br (N := S.1.1 + 1) (by omega) hl hw (hf true) (fun r => ⟨r.2.1, r.2.2⟩) mb z0 z1 z3
                        refine ⟨imx xx.1 x, rfl, ?_, ?_, ?_, g2, fun k' hk' rt => ?_⟩
                        · show AB (sgn true * rbF (fun c => sgn true * gnF S R rem (!true) (dkL S R (wyI true) L c)) (okC_ L) (S.1.1 + 1)) lo hi _
                          show AB (1 * _) lo hi _; rw [Int.one_mul]; exact y1
                        · omega
                        · intro z; have := y2 z; omega
                        · cases hk'
                          omega
                      · refine je_aload0 (pc := 246) d10005_246 rfl ?_
                        refine je_iload (pc := 247) d10005_247 rfl ?_
                        refine ju_puti (pc := 249) d10005_249 jF_10_98 rfl (sK79 H3) ?_
                        refine je_iload (pc := 252) d10005_252 rfl ?_
                        refine ju_eqi (v := iZ (imx xx.1 x)) (by first | exact (bx_t (by omega) (by omega) (by omega) (by omega) c177) | exact (bx_f (by omega) (by omega) (by omega) (by omega) c177)) ?_
                        refine je_iret (pc := 254) d10005_254 rfl ?_
                        obtain ⟨z0, z1, -, z3⟩ := st2 (by have : ¬ _ := fun z => c230 ((iZ_lt (by omega) (by omega) (by omega) (by omega)).mpr z); omega)
                        obtain ⟨y1, y2, y3, y4⟩ := GJ.br (N := S.1.1 + 1) (by omega) hl hw (hf true) (fun r => ⟨r.2.1, r.2.2⟩) mb z0 z1 z3
                        refine ⟨imx xx.1 x, rfl, ?_, ?_, ?_, g2.wI (by omega), fun k' hk' rt => ?_⟩
                        · show AB (sgn true * rbF (fun c => sgn true * gnF S R rem (!true) (dkL S R (wyI true) L c)) (okC_ L) (S.1.1 + 1)) lo hi _
                          show AB (1 * _) lo hi _; rw [Int.one_mul]; exact y1
                        · omega
                        · intro z; have := y2 z; omega
                        · cases hk'
                          rw [wI_at, jx_up_self]; have := y4 rt; rw [if_pos (show xx.1 < x from (iZ_lt (by omega) (by omega) (by omega) (by omega)).mp c177)] at this; exact this
                · refine jb_ifeq (pc := 141) 148 d10005_141 (by decide) (fun c141 => ?_) (fun c141 => ?_)
                  · refine je_iload (pc := 148) d10005_148 rfl ?_
                    refine ju_eqi (v := (if k = 0 then 0 else 1)) (by rw [if_neg c141]) ?_
                    exact jn141
                  · refine je_iconst (pc := 144) (v := 0) d10005_144 rfl ?_
                    refine je_goto (pc := 145) 150 d10005_145 (by decide) ?_
                    refine ju_eqi (v := (if k = 0 then 0 else 1)) (by rw [if_pos c141]) ?_
                    exact jn141
              · refine jb_ifeq (pc := 130) 137 d10005_130 (by decide) (fun c130 => ?_) (fun c130 => ?_)
                · refine je_iload (pc := 137) d10005_137 rfl ?_
                  refine ju_eqi (v := nI (if k = 0 then 0 else k - 1)) (by rw [if_neg c130]; exact chV_n c130) ?_
                  exact jn130
                · refine je_iconst (pc := 133) (v := 0) d10005_133 rfl ?_
                  refine je_goto (pc := 134) 139 d10005_134 (by decide) ?_
                  refine ju_eqi (v := nI (if k = 0 then 0 else k - 1)) (by rw [if_pos c130]; rfl) ?_
                  exact jn130
        · refine je_icne (pc := 97) 104 d10005_97 (by decide) (fun c97 => ?_) (fun c97 => ?_)
          · refine je_iconst (pc := 104) (v := 0) d10005_104 rfl ?_
            refine ju_eqi (v := b2 (k = 0)) (b2_f (fun q => c97 (by rw [q]; rfl))).symm ?_
            exact jn97
          · refine je_iconst (pc := 100) (v := 1) d10005_100 rfl ?_
            refine je_goto (pc := 101) 105 d10005_101 (by decide) ?_
            refine ju_eqi (v := b2 (k = 0)) (b2_t ((chV_0 (by omega)).mp c97)).symm ?_
            exact jn97
      · obtain ⟨e1, e2⟩ := e
        have H1 := e1.St H
        have C1 := C.fr e1 (fun b hb => olA (by omega))
        obtain ⟨s, c1, c2, c3, c4, -⟩ := id C1
        have L1 : rL h'.2.1 (82 + 5 * g) L := hL.of (fun b h1 h2 => e1.2 b (by omega))
        have bd := e2.bd hl
        refine je_iload (pc := 79) d10005_79 rfl ?_
        refine je_aload0 (pc := 81) d10005_81 rfl ?_
        refine ju_getr (pc := 82) (b := 51) d10005_82 jF_10_21 rfl (sK79 H1) (sR79_0 H1) ?_
        refine ju_getr (pc := 85) (b := s) d10005_85 jF_10_34 rfl (sK51 H1) c1 ?_
        refine ju_geti (pc := 88) d10005_88 jF_10_50 rfl c3.1.1 ?_
        refine ju_eqi (v := nI S.1.1) c4.1.1 ?_
        refine ju_icge (pc := 91) 242 d10005_91 (by decide) (fun c91 => ?_) (fun c91 => absurd c91 (chV_ge (by omega)))
        refine je_iload1 (pc := 242) d10005_242 rfl ?_
        refine jn_ifne (pc := 243) (a := (g)) 252 d10005_243 (by decide) (by omega) (fun c243 => ?_) (fun c243 => ?_)
        · refine je_iload (pc := 252) d10005_252 rfl ?_
          refine je_iret (pc := 254) d10005_254 rfl ?_
          obtain ⟨y1, y2, y3, y4⟩ := e2.end (by omega) (hf true)
          refine ⟨xx.1, rfl, ?_, ?_, ?_, e1, fun k' hk' rt => ?_⟩
          · show AB (sgn true * rbF (fun c => sgn true * gnF S R rem (!true) (dkL S R (wyI true) L c)) (okC_ L) (S.1.1 + 1)) lo hi _
            show AB (1 * _) lo hi _; rw [Int.one_mul]; exact y1
          · omega
          · intro z; have := y2 z; omega
          · cases hk'
            omega
        · refine je_aload0 (pc := 246) d10005_246 rfl ?_
          refine je_iload (pc := 247) d10005_247 rfl ?_
          refine ju_puti (pc := 249) d10005_249 jF_10_98 rfl (sK79 H1) ?_
          refine je_iload (pc := 252) d10005_252 rfl ?_
          refine je_iret (pc := 254) d10005_254 rfl ?_
          obtain ⟨y1, y2, y3, y4⟩ := e2.end (by omega) (hf true)
          refine ⟨xx.1, rfl, ?_, ?_, ?_, e1.wI (by omega), fun k' hk' rt => ?_⟩
          · show AB (sgn true * rbF (fun c => sgn true * gnF S R rem (!true) (dkL S R (wyI true) L c)) (okC_ L) (S.1.1 + 1)) lo hi _
            show AB (1 * _) lo hi _; rw [Int.one_mul]; exact y1
          · omega
          · intro z; have := y2 z; omega
          · cases hk'
            rw [wI_at, jx_up_self]; exact y4 rt
set_option maxHeartbeats 2000000 in
theorem t_Co_westGain (d : Nat) {bc bs : Nat} {h : jx_H} {S : MS} {R : Option MR} {L : ML} {nn : Nat} (H : jx_St h) (C : cLaw h S R) (wS : wfS S) (h0 : 0 < S.1.1) (hL : rL h.2.1 40 L) (hN : L.2.2.2.2.2 = nI nn) {n nl : Nat} (hmi : S.1.1 ≤ 10) (h1 : 1 ≤ n) (h4 : n ≤ 4) (hnn : nn + n < 998) (wl : wfL nl S.1.1 S.1.2.1 L) (hnl : nl + n < 2000) : jx_Tr (d + 11) bc bs 10004 [.ref 79, .ref 40, .int (nI n)] h (fun r h' => r = some (.int (iZ (gnF S R n true L))) ∧ fC (fun b => b = 65 ∨ 79 ≤ b ∧ b ≤ 106) h h' ∧ h'.2.1 79 3 = chV (raF (fun c => sgn true * gnF S R (n - 1) false (dkL S R 1 L c)) (okC_ L) (S.1.1 + 1))) := by
  refine jx_tr jM_Co_westGain rfl rfl (lv := [some (.ref 79), some (.ref 40), some (.int (nI n))]) rfl ?_
  have w8 := wS.2.1
  refine je_aload0 (pc := 0) d10004_0 rfl ?_
  refine ju_getr (pc := 1) (b := 80) d10004_1 jF_10_11 rfl (sK79 H) (sR79_1 H) ?_
  refine je_iconst (pc := 4) (v := 0) d10004_4 rfl ?_
  refine je_aald (pc := 5) d10004_5 (by decide) (sK80 H) (vp_in_nI (n := 0) (by decide) (by decide)) (v := .ref (82 + 5 * 0)) (r80 H (k := 0) (by decide)) ?_
  refine je_aload1 (pc := 6) d10004_6 rfl ?_
  refine ju_callv (pc := 7) (as := [_]) d10004_7 jL_10_26 jM_La_copyFrom rfl (by decide) (lA_La H (ln_A (by omega))).1 rfl (by exact Nat.le_of_ble_eq_true rfl) (t_La_copyFrom (d + 8) (a := 82 + 5 * 0) (b := 40) (lA_La H (ln_A (by decide))) (sL40 H) (by decide)) (fun r7 h7 q7 => ?_)
  obtain ⟨rfl, f1, f2⟩ := q7
  have H0 := f1.St H
  have L0 := f2 L hL
  have C0 := C.fr f1 (fun b hb => olA (by omega))
  obtain ⟨s, c1, c2, c3, c4, -⟩ := id C0
  refine je_aload0 (pc := 10) d10004_10 rfl ?_
  refine je_iconst (pc := 11) (v := 0) d10004_11 rfl ?_
  refine je_iload2 (pc := 12) d10004_12 rfl ?_
  refine je_aload0 (pc := 13) d10004_13 rfl ?_
  refine ju_getr (pc := 14) (b := 51) d10004_14 jF_10_21 rfl (sK79 H0) (sR79_0 H0) ?_
  refine ju_getr (pc := 17) (b := s) d10004_17 jF_10_34 rfl (sK51 H0) c1 ?_
  refine ju_geti (pc := 20) d10004_20 jF_10_66 rfl c3.1.1 ?_
  refine ju_eqi (v := nI S.1.2.1) c4.1.2.2.1 ?_
  refine je_ineg (pc := 23) d10004_23 ?_
  refine ju_eqi (v := iZ (-(S.1.2.1 : Int))) (by rw [iZ_nI, ← iZ_neg (by omega) (by omega)]) ?_
  refine je_aload0 (pc := 24) d10004_24 rfl ?_
  refine ju_getr (pc := 25) (b := 51) d10004_25 jF_10_21 rfl (sK79 H0) (sR79_0 H0) ?_
  refine ju_getr (pc := 28) (b := s) d10004_28 jF_10_34 rfl (sK51 H0) c1 ?_
  refine ju_geti (pc := 31) d10004_31 jF_10_66 rfl c3.1.1 ?_
  refine ju_eqi (v := nI S.1.2.1) c4.1.2.2.1 ?_
  refine ju_callv (pc := 34) (as := [_, _, _, _]) d10004_34 jL_10_69 jM_Co_gain rfl (by decide) (sK79 H0) rfl (by exact Nat.le_of_ble_eq_true rfl) (by have := co_gain (S := S) (R := R) wS h0 hmi n (d + (4 - n)) (bc := 0) (bs := 0) (h := h7) (L := L) (nn := nn) (nl := nl) (g := 0) (lo := -(S.1.2.1 : Int)) (hi := (S.1.2.1 : Int)) (e := true) H0 C0 (by omega) L0 hN hnn wl hnl rfl (by omega) (by omega) (by omega); rw [show d + (4 - n) + n + 6 = d + 10 by omega, Nat.zero_add, ← iZ_nI] at this; exact this) (fun r34 h34 q34 => ?_)
  obtain ⟨x, rfl, a1, a2, a3, a4, a5⟩ := q34
  refine je_iret (pc := 37) d10004_37 rfl ?_
  have b := gn_bd (S := S) (R := R) w8 (k := n) (e := true) (L := L)
  have ex : x = gnF S R n true L := by
    by_cases z1 : gnF S R n true L ≤ -(S.1.2.1 : Int)
    · have := a1.1 z1; omega
    · by_cases z2 : (S.1.2.1 : Int) ≤ gnF S R n true L
      · have := a1.2.1 z2; omega
      · exact a1.2.2 (by omega) (by omega)
  exact ⟨by rw [ex], (f1.mo (fun b hb => by omega)).tr (a4.mo (fun b hb => by omega)), a5 (n - 1) (by omega) ⟨rfl, rfl, rfl⟩⟩
