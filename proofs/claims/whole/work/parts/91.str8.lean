/-! a strip told: the model takes it -/
def mxA (b : Nat) : Prop := b = 253 ∨ (254 ≤ b ∧ b ≤ 264) ∨ b = 268 ∨ b = 269 ∨ (270 ≤ b ∧ b ≤ 279)
theorem mn_mx {b : Nat} (h : mnA b) : mxA b := by unfold mnA at h; unfold mxA; omega
set_option maxHeartbeats 2000000 in
theorem t_Mo_strip_f (d : Nat) {bc bs : Nat} {h : jx_H} {N : Nat} (H : jx_St h) (ht : h.2.1 253 27 = nI N) (hN : N ≤ 400) (hB : ∀ j, j < N → (h.2.1 280 j).toInt8.toInt32 = h.2.1 280 j) (c : ¬ (itS (mT h) N S00 41).2.1.1 = 0) : jx_Tr (d + 10) bc bs 12004 [.ref 253] h (fun r h' => r = some (.int (-2 - (itS (mT h) N S00 41).2.1.1)) ∧ fC mnA h h' ∧ (∀ j, j ≠ 27 → j ≠ 28 → j ≠ 29 → j ≠ 32 → j ≠ 33 → j ≠ 34 → h'.2.1 253 j = h.2.1 253 j) ∧ h'.2.1 253 27 = 0) := by
  refine jx_tr jM_Mo_strip rfl rfl (lv := [some (.ref 253), none]) rfl ?_
  refine je_aload0 (pc := 0) d12004_0 rfl ?_
  refine ju_callv (pc := 1) (as := []) d12004_1 jL_12_354 jM_Mo_readsAll rfl (by decide) (sK253 H) rfl (by exact Nat.le_of_ble_eq_true rfl) (t_Mo_readsAll d H ht hN hB) (fun r1 h1 q1 => ?_)
  obtain ⟨rfl, f1, g1, t1, fl, sn⟩ := q1
  have H1 := f1.St H
  refine je_aload0 (pc := 4) d12004_4 rfl ?_
  refine ju_geti (pc := 5) d12004_5 jF_12_214 rfl (sK253 H1) ?_
  refine ju_eqi (v := (itS (mT h) N S00 41).2.1.1) fl ?_
  refine ju_ifle (pc := 8) 19 d12004_8 (by decide) (fun c8 => absurd c8 (fun z => z ((it_fp (T := mT h) (N := N) wf_00 rfl hN 41 (by decide)).elim (fun y => absurd y c) (fun y => y)))) (fun c8 => ?_)
  refine je_bipush (pc := 11) (v := -2) d12004_11 rfl ?_
  refine je_aload0 (pc := 13) d12004_13 rfl ?_
  refine ju_geti (pc := 14) d12004_14 jF_12_214 rfl (sK253 H1) ?_
  refine ju_eqi (v := (itS (mT h) N S00 41).2.1.1) fl ?_
  refine je_isub (pc := 17) d12004_17 ?_
  refine je_iret (pc := 18) d12004_18 rfl ?_
  exact ⟨rfl, f1, g1, t1⟩
set_option maxHeartbeats 8000000 in
theorem t_Mo_strip (d : Nat) {bc bs : Nat} {h : jx_H} {N : Nat} (H : jx_St h) (ht : h.2.1 253 27 = nI N) (hN : N ≤ 400) (hB : ∀ j, j < N → (h.2.1 280 j).toInt8.toInt32 = h.2.1 280 j) {ff xx : Int32} (c : (itS (mT h) N S00 41).2.1.1 = 0) (hf : h.2.1 254 8 = ff) (hx : h.2.1 254 7 = xx) : jx_Tr (d + 10) bc bs 12004 [.ref 253] h (fun r h' => r = some (.int (nI (itS (mT h) N S00 41).2.2.1.2.1)) ∧ fC mxA h h' ∧ (∀ j, j ≠ 27 → j ≠ 28 → j ≠ 29 → j ≠ 32 → j ≠ 33 → j ≠ 34 → j ≠ 51 → h'.2.1 253 j = h.2.1 253 j) ∧ h'.2.1 253 27 = 0 ∧ mW (gN h') ((itS (mT h) N S00 41).2.2, (itS (mT h) N S00 41).2.2.2.2, (ff, xx), (0, fun _ => 0, fun _ => 0, fun _ => 0), (0, fun _ => S00.2.2))) := by
  refine jx_tr jM_Mo_strip rfl rfl (lv := [some (.ref 253), none]) rfl ?_
  refine je_aload0 (pc := 0) d12004_0 rfl ?_
  refine ju_callv (pc := 1) (as := []) d12004_1 jL_12_354 jM_Mo_readsAll rfl (by decide) (sK253 H) rfl (by exact Nat.le_of_ble_eq_true rfl) (t_Mo_readsAll d H ht hN hB) (fun r1 h1 q1 => ?_)
  obtain ⟨rfl, f1, g1, t1, fl, sn⟩ := q1
  have H1 := f1.St H
  refine je_aload0 (pc := 4) d12004_4 rfl ?_
  refine ju_geti (pc := 5) d12004_5 jF_12_214 rfl (sK253 H1) ?_
  refine ju_eqi (v := (itS (mT h) N S00 41).2.1.1) fl ?_
  refine ju_ifle (pc := 8) 19 d12004_8 (by decide) (fun c8 => ?_) (fun c8 => absurd c8 (fun z => by rw [c] at z; exact absurd z (by decide)))
  refine je_iconst (pc := 19) (v := 0) d12004_19 rfl ?_
  refine ju_istore1 (pc := 20) (lv' := [some _, some _]) d12004_20 rfl rfl ?_
  have R := sn c
  refine je_loop (σ := Unit) (7) (fun k xx => [some (.ref 253), some (.int (nI k))]) (fun k _ h' => fC (fun b => b = 254) h1 h' ∧ (∀ j, j < k → h'.2.1 254 j = if j < 5 then h1.2.1 270 j else 0) ∧ ∀ j, 7 ≤ j → h'.2.1 254 j = h1.2.1 254 j) (fun k xx h' hk e kk => ?_) (fun xx h' e => ?_) (0) () h1 (by omega) ⟨fC.rf, fun j hj => absurd hj (Nat.not_lt_zero j), fun _ _ => rfl⟩
  · obtain ⟨e1, e2, e3⟩ := e
    have HL := e1.St H1
    refine je_iload1 (pc := 21) d12004_21 rfl ?_
    refine je_bipush (pc := 22) (v := 7) d12004_22 rfl ?_
    refine jn_icge (pc := 24) (a := (k)) (b := 7) 54 d12004_24 (by decide) (by omega) (by omega) (fun c24 => by exfalso; omega) (fun c24 => ?_)
    refine je_aload0 (pc := 27) d12004_27 rfl ?_
    refine ju_getr (pc := 28) (b := 254) d12004_28 jF_12_9 rfl (sK253 HL) (sR253_1 HL) ?_
    refine je_iload1 (pc := 31) d12004_31 rfl ?_
    refine je_iload1 (pc := 32) d12004_32 rfl ?_
    refine je_iconst (pc := 33) (v := 5) d12004_33 rfl ?_
    refine ju_tern2 (pc := 34) (V := (if k < 5 then h1.2.1 270 k else 0)) 47 ?_ (fun jn34 => ?_)
    · refine ju_iast (pc := 47) (jn := (k)) d12004_47 (sK254 HL) (vp_in_nI (by omega) (by decide)) (nI_clamp (by omega)) ?_
      refine ju_incN (pc := 48) (v := nI ((k) + 1)) (lv' := [some _, some _]) d12004_48 rfl (nI_1 (k)) rfl ?_
      refine je_goto (pc := 51) 21 d12004_51 (by decide) ?_
      refine kk () _ ⟨e1.wI rfl, fun j hj => ?_, fun j hj => ?_⟩
      · rw [wI_at]
        by_cases z : j = k
        · rw [z, jx_up_self]
        · rw [jx_up_ne _ _ z]; exact e2 j (by omega)
      · rw [wI_at, jx_up_ne _ _ (by omega)]; exact e3 j hj
    · refine jn_icge (pc := 34) (a := (k)) (b := 5) 46 d12004_34 (by decide) (by omega) (by omega) (fun c34 => ?_) (fun c34 => ?_)
      · refine je_iconst (pc := 46) (v := 0) d12004_46 rfl ?_
        refine ju_eqi (v := (if k < 5 then h1.2.1 270 k else 0)) (by rw [if_neg (by omega)]) ?_
        exact jn34
      · refine je_aload0 (pc := 37) d12004_37 rfl ?_
        refine ju_getr (pc := 38) (b := 270) d12004_38 jF_12_58 rfl (sK253 HL) (sR253_17 HL) ?_
        refine je_iload1 (pc := 41) d12004_41 rfl ?_
        refine ju_iald (pc := 42) (jn := (k)) d12004_42 (sK270 HL) (vp_in_nI (by omega) (by decide)) (nI_clamp (by omega)) ?_
        refine je_goto (pc := 43) 47 d12004_43 (by decide) ?_
        refine ju_eqi (v := (if k < 5 then h1.2.1 270 k else 0)) (by rw [if_pos (by omega), e1.2 270 (by decide)]) ?_
        exact jn34
  · obtain ⟨e1, e2, e3⟩ := e
    have HL := e1.St H1
    refine je_iload1 (pc := 21) d12004_21 rfl ?_
    refine je_bipush (pc := 22) (v := 7) d12004_22 rfl ?_
    refine jn_icge (pc := 24) (a := ((7))) (b := 7) 54 d12004_24 (by decide) (by omega) (by omega) (fun c24 => ?_) (fun c24 => by exfalso; omega)
    refine je_aload0 (pc := 54) d12004_54 rfl ?_
    refine ju_getr (pc := 55) (b := 271) d12004_55 jF_12_61 rfl (sK253 HL) (sR253_18 HL) ?_
    refine je_aload0 (pc := 58) d12004_58 rfl ?_
    refine ju_getr (pc := 59) (b := 255) d12004_59 jF_12_13 rfl (sK253 HL) (sR253_2 HL) ?_
    refine ju_calls (pc := 62) (as := [_, _]) d12004_62 jL_12_357 jM_Mo_copies rfl rfl (by exact Nat.le_of_ble_eq_true rfl) (t_Mo_copies (d + 8) (a := 271) (b := 255) (na := 10) (nb := 10) (sK271 HL) (sK255 HL) (by decide) (by decide) (by decide)) (fun r62 h62 q62 => ?_)
    obtain ⟨rfl, c0, v0⟩ := q62
    have HC0 := c0.St HL
    refine je_aload0 (pc := 65) d12004_65 rfl ?_
    refine ju_getr (pc := 66) (b := 272) d12004_66 jF_12_64 rfl (sK253 HC0) (sR253_19 HC0) ?_
    refine je_aload0 (pc := 69) d12004_69 rfl ?_
    refine ju_getr (pc := 70) (b := 256) d12004_70 jF_12_16 rfl (sK253 HC0) (sR253_3 HC0) ?_
    refine ju_calls (pc := 73) (as := [_, _]) d12004_73 jL_12_357 jM_Mo_copies rfl rfl (by exact Nat.le_of_ble_eq_true rfl) (t_Mo_copies (d + 8) (a := 272) (b := 256) (na := 10) (nb := 10) (sK272 HC0) (sK256 HC0) (by decide) (by decide) (by decide)) (fun r73 h73 q73 => ?_)
    obtain ⟨rfl, c1, v1⟩ := q73
    have HC1 := c1.St HC0
    refine je_aload0 (pc := 76) d12004_76 rfl ?_
    refine ju_getr (pc := 77) (b := 272) d12004_77 jF_12_64 rfl (sK253 HC1) (sR253_19 HC1) ?_
    refine je_aload0 (pc := 80) d12004_80 rfl ?_
    refine ju_getr (pc := 81) (b := 268) d12004_81 jF_12_52 rfl (sK253 HC1) (sR253_15 HC1) ?_
    refine ju_calls (pc := 84) (as := [_, _]) d12004_84 jL_12_357 jM_Mo_copies rfl rfl (by exact Nat.le_of_ble_eq_true rfl) (t_Mo_copies (d + 8) (a := 272) (b := 268) (na := 10) (nb := 10) (sK272 HC1) (sK268 HC1) (by decide) (by decide) (by decide)) (fun r84 h84 q84 => ?_)
    obtain ⟨rfl, c2, v2⟩ := q84
    have HC2 := c2.St HC1
    refine je_aload0 (pc := 87) d12004_87 rfl ?_
    refine ju_getr (pc := 88) (b := 273) d12004_88 jF_12_67 rfl (sK253 HC2) (sR253_20 HC2) ?_
    refine je_aload0 (pc := 91) d12004_91 rfl ?_
    refine ju_getr (pc := 92) (b := 257) d12004_92 jF_12_19 rfl (sK253 HC2) (sR253_4 HC2) ?_
    refine ju_calls (pc := 95) (as := [_, _]) d12004_95 jL_12_357 jM_Mo_copies rfl rfl (by exact Nat.le_of_ble_eq_true rfl) (t_Mo_copies (d + 8) (a := 273) (b := 257) (na := 10) (nb := 10) (sK273 HC2) (sK257 HC2) (by decide) (by decide) (by decide)) (fun r95 h95 q95 => ?_)
    obtain ⟨rfl, c3, v3⟩ := q95
    have HC3 := c3.St HC2
    refine je_aload0 (pc := 98) d12004_98 rfl ?_
    refine ju_getr (pc := 99) (b := 274) d12004_99 jF_12_70 rfl (sK253 HC3) (sR253_21 HC3) ?_
    refine je_aload0 (pc := 102) d12004_102 rfl ?_
    refine ju_getr (pc := 103) (b := 258) d12004_103 jF_12_22 rfl (sK253 HC3) (sR253_5 HC3) ?_
    refine ju_calls (pc := 106) (as := [_, _]) d12004_106 jL_12_357 jM_Mo_copies rfl rfl (by exact Nat.le_of_ble_eq_true rfl) (t_Mo_copies (d + 8) (a := 274) (b := 258) (na := 100) (nb := 100) (sK274 HC3) (sK258 HC3) (by decide) (by decide) (by decide)) (fun r106 h106 q106 => ?_)
    obtain ⟨rfl, c4, v4⟩ := q106
    have HC4 := c4.St HC3
    refine je_aload0 (pc := 109) d12004_109 rfl ?_
    refine ju_getr (pc := 110) (b := 275) d12004_110 jF_12_73 rfl (sK253 HC4) (sR253_22 HC4) ?_
    refine je_aload0 (pc := 113) d12004_113 rfl ?_
    refine ju_getr (pc := 114) (b := 259) d12004_114 jF_12_25 rfl (sK253 HC4) (sR253_6 HC4) ?_
    refine ju_calls (pc := 117) (as := [_, _]) d12004_117 jL_12_357 jM_Mo_copies rfl rfl (by exact Nat.le_of_ble_eq_true rfl) (t_Mo_copies (d + 8) (a := 275) (b := 259) (na := 8) (nb := 8) (sK275 HC4) (sK259 HC4) (by decide) (by decide) (by decide)) (fun r117 h117 q117 => ?_)
    obtain ⟨rfl, c5, v5⟩ := q117
    have HC5 := c5.St HC4
    refine je_aload0 (pc := 120) d12004_120 rfl ?_
    refine ju_getr (pc := 121) (b := 276) d12004_121 jF_12_76 rfl (sK253 HC5) (sR253_23 HC5) ?_
    refine je_aload0 (pc := 124) d12004_124 rfl ?_
    refine ju_getr (pc := 125) (b := 260) d12004_125 jF_12_28 rfl (sK253 HC5) (sR253_7 HC5) ?_
    refine ju_calls (pc := 128) (as := [_, _]) d12004_128 jL_12_357 jM_Mo_copies rfl rfl (by exact Nat.le_of_ble_eq_true rfl) (t_Mo_copies (d + 8) (a := 276) (b := 260) (na := 8) (nb := 8) (sK276 HC5) (sK260 HC5) (by decide) (by decide) (by decide)) (fun r128 h128 q128 => ?_)
    obtain ⟨rfl, c6, v6⟩ := q128
    have HC6 := c6.St HC5
    refine je_aload0 (pc := 131) d12004_131 rfl ?_
    refine ju_getr (pc := 132) (b := 277) d12004_132 jF_12_79 rfl (sK253 HC6) (sR253_24 HC6) ?_
    refine je_aload0 (pc := 135) d12004_135 rfl ?_
    refine ju_getr (pc := 136) (b := 261) d12004_136 jF_12_31 rfl (sK253 HC6) (sR253_8 HC6) ?_
    refine ju_calls (pc := 139) (as := [_, _]) d12004_139 jL_12_357 jM_Mo_copies rfl rfl (by exact Nat.le_of_ble_eq_true rfl) (t_Mo_copies (d + 8) (a := 277) (b := 261) (na := 8) (nb := 8) (sK277 HC6) (sK261 HC6) (by decide) (by decide) (by decide)) (fun r139 h139 q139 => ?_)
    obtain ⟨rfl, c7, v7⟩ := q139
    have HC7 := c7.St HC6
    refine je_aload0 (pc := 142) d12004_142 rfl ?_
    refine ju_getr (pc := 143) (b := 278) d12004_143 jF_12_82 rfl (sK253 HC7) (sR253_25 HC7) ?_
    refine je_aload0 (pc := 146) d12004_146 rfl ?_
    refine ju_getr (pc := 147) (b := 263) d12004_147 jF_12_37 rfl (sK253 HC7) (sR253_10 HC7) ?_
    refine ju_calls (pc := 150) (as := [_, _]) d12004_150 jL_12_357 jM_Mo_copies rfl rfl (by exact Nat.le_of_ble_eq_true rfl) (t_Mo_copies (d + 8) (a := 278) (b := 263) (na := 8) (nb := 8) (sK278 HC7) (sK263 HC7) (by decide) (by decide) (by decide)) (fun r150 h150 q150 => ?_)
    obtain ⟨rfl, c8, v8⟩ := q150
    have HC8 := c8.St HC7
    refine je_aload0 (pc := 153) d12004_153 rfl ?_
    refine ju_getr (pc := 154) (b := 279) d12004_154 jF_12_85 rfl (sK253 HC8) (sR253_26 HC8) ?_
    refine je_aload0 (pc := 157) d12004_157 rfl ?_
    refine ju_getr (pc := 158) (b := 264) d12004_158 jF_12_40 rfl (sK253 HC8) (sR253_11 HC8) ?_
    refine ju_calls (pc := 161) (as := [_, _]) d12004_161 jL_12_357 jM_Mo_copies rfl rfl (by exact Nat.le_of_ble_eq_true rfl) (t_Mo_copies (d + 8) (a := 279) (b := 264) (na := 8) (nb := 8) (sK279 HC8) (sK264 HC8) (by decide) (by decide) (by decide)) (fun r161 h161 q161 => ?_)
    obtain ⟨rfl, c9, v9⟩ := q161
    have HC9 := c9.St HC8
    refine je_aload0 (pc := 164) d12004_164 rfl ?_
    refine ju_getr (pc := 165) (b := 269) d12004_165 jF_12_55 rfl (sK253 HC9) (sR253_16 HC9) ?_
    refine je_iconst (pc := 168) (v := 0) d12004_168 rfl ?_
    refine je_aload0 (pc := 169) d12004_169 rfl ?_
    refine ju_getr (pc := 170) (b := 254) d12004_170 jF_12_9 rfl (sK253 HC9) (sR253_1 HC9) ?_
    refine je_iconst (pc := 173) (v := 4) d12004_173 rfl ?_
    refine ju_iald (pc := 174) (jn := 4) d12004_174 (sK254 HC9) (by first | assumption | exact jx_ok_dec (by decide)) (by decide) ?_
    refine ju_iast (pc := 175) (jn := 0) d12004_175 (sK269 HC9) (by first | assumption | exact jx_ok_dec (by decide)) (by decide) ?_
    refine je_iconst (pc := 176) (v := 0) d12004_176 rfl ?_
    refine ju_istore1 (pc := 177) (lv' := [some _, some _]) d12004_177 rfl rfl ?_
    refine je_loop (σ := Unit) (8) (fun k xx => [some (.ref 253), some (.int (nI k))]) (fun k _ h' => fC (fun b => b = 262) _ h' ∧ ∀ j, j < k → h'.2.1 262 j = 0) (fun k xx h' hk e kk => ?_) (fun xx h' e => ?_) (0) () _ (by omega) ⟨fC.rf, fun j hj => absurd hj (Nat.not_lt_zero j)⟩
    · obtain ⟨z1, z2⟩ := e
      have HZ := z1.St HC9.wI
      refine je_iload1 (pc := 178) d12004_178 rfl ?_
      refine je_bipush (pc := 179) (v := 8) d12004_179 rfl ?_
      refine jn_icge (pc := 181) (a := (k)) (b := 8) 197 d12004_181 (by decide) (by omega) (by omega) (fun c181 => by exfalso; omega) (fun c181 => ?_)
      refine je_aload0 (pc := 184) d12004_184 rfl ?_
      refine ju_getr (pc := 185) (b := 262) d12004_185 jF_12_34 rfl (sK253 HZ) (sR253_9 HZ) ?_
      refine je_iload1 (pc := 188) d12004_188 rfl ?_
      refine je_iconst (pc := 189) (v := 0) d12004_189 rfl ?_
      refine ju_iast (pc := 190) (jn := (k)) d12004_190 (sK262 HZ) (vp_in_nI (by omega) (by decide)) (nI_clamp (by omega)) ?_
      refine ju_incN (pc := 191) (v := nI ((k) + 1)) (lv' := [some _, some _]) d12004_191 rfl (nI_1 (k)) rfl ?_
      refine je_goto (pc := 194) 178 d12004_194 (by decide) ?_
      refine kk () _ ⟨z1.wI rfl, fun j hj => ?_⟩
      rw [wI_at]
      by_cases z : j = k
      · rw [z, jx_up_self]
      · rw [jx_up_ne _ _ z]; exact z2 j (by omega)
    · obtain ⟨z1, z2⟩ := e
      have HZ := z1.St HC9.wI
      refine je_iload1 (pc := 178) d12004_178 rfl ?_
      refine je_bipush (pc := 179) (v := 8) d12004_179 rfl ?_
      refine jn_icge (pc := 181) (a := ((8))) (b := 8) 197 d12004_181 (by decide) (by omega) (by omega) (fun c181 => ?_) (fun c181 => by exfalso; omega)
      refine je_aload0 (pc := 197) d12004_197 rfl ?_
      refine je_iconst (pc := 198) (v := 0) d12004_198 rfl ?_
      refine ju_puti (pc := 199) d12004_199 jF_12_361 rfl (sK253 HZ) ?_
      refine je_aload0 (pc := 202) d12004_202 rfl ?_
      refine ju_getr (pc := 203) (b := 254) d12004_203 jF_12_9 rfl (sK253 HZ.wI) (sR253_1 HZ.wI) ?_
      refine je_iconst (pc := 206) (v := 2) d12004_206 rfl ?_
      refine ju_iald (pc := 207) (jn := 2) d12004_207 (sK254 HZ.wI) (by first | assumption | exact jx_ok_dec (by decide)) (by decide) ?_
      refine ju_eqi (v := nI (itS (mT h) N S00 41).2.2.1.2.1) (by rw [wI_ne _ _ _ (show 254 ≠ 253 by decide), z1.2 254 (by decide), wI_ne _ _ _ (show 254 ≠ 269 by decide), c9.2 254 (by decide), c8.2 254 (by decide), c7.2 254 (by decide), c6.2 254 (by decide), c5.2 254 (by decide), c4.2 254 (by decide), c3.2 254 (by decide), c2.2 254 (by decide), c1.2 254 (by decide), c0.2 254 (by decide), e2 2 (by decide), if_pos (by decide)]; exact R.1.2.2.1) ?_
      refine je_iret (pc := 208) d12004_208 rfl ?_
      have wS : wfS (itS (mT h) N S00 41).2.2 := (it_wf (T := mT h) (N := N) wf_00 rfl hN 41 (by decide)).1
      have cr : ∀ v, v < 8 → (itS (mT h) N S00 41).2.2.2.2.2.2.2.1 v = 0 := fun v hv => by
        have := (wS.2.2.2.2.2.2.2.2.1 v hv).1
        exact Int32.toInt_inj.mp (Int.le_antisymm this.2 this.1)
      have ni : (itS (mT h) N S00 41).2.2.2.2.2.2.2.2.2 = 0 := by
        obtain ⟨k, k1, k2⟩ := wS.2.2.2.2.2.2.2.2.2.2
        rw [k2, show k = 0 by omega]; rfl
      have vl : (itS (mT h) N S00 41).2.2.1.2.1 ≤ 8 := wS.2.1
      have wl : (itS (mT h) N S00 41).2.2.1.2.2.1 ≤ 8 := wS.2.2.1
      refine ⟨rfl, ?_, ?_, ?_, ⟨⟨by rw [gN_ne _ (by decide), wI_ne _ _ _ (show 254 ≠ 253 by decide), z1.2 254 (by decide), wI_ne _ _ _ (show 254 ≠ 269 by decide), c9.2 254 (by decide), c8.2 254 (by decide), c7.2 254 (by decide), c6.2 254 (by decide), c5.2 254 (by decide), c4.2 254 (by decide), c3.2 254 (by decide), c2.2 254 (by decide), c1.2 254 (by decide), c0.2 254 (by decide), e2 0 (by decide), if_pos (by decide)]; exact R.1.1, by rw [gN_ne _ (by decide), wI_ne _ _ _ (show 254 ≠ 253 by decide), z1.2 254 (by decide), wI_ne _ _ _ (show 254 ≠ 269 by decide), c9.2 254 (by decide), c8.2 254 (by decide), c7.2 254 (by decide), c6.2 254 (by decide), c5.2 254 (by decide), c4.2 254 (by decide), c3.2 254 (by decide), c2.2 254 (by decide), c1.2 254 (by decide), c0.2 254 (by decide), e2 1 (by decide), if_pos (by decide)]; exact R.1.2.1, by rw [gN_ne _ (by decide), wI_ne _ _ _ (show 254 ≠ 253 by decide), z1.2 254 (by decide), wI_ne _ _ _ (show 254 ≠ 269 by decide), c9.2 254 (by decide), c8.2 254 (by decide), c7.2 254 (by decide), c6.2 254 (by decide), c5.2 254 (by decide), c4.2 254 (by decide), c3.2 254 (by decide), c2.2 254 (by decide), c1.2 254 (by decide), c0.2 254 (by decide), e2 2 (by decide), if_pos (by decide)]; exact R.1.2.2.1, by rw [gN_ne _ (by decide), wI_ne _ _ _ (show 254 ≠ 253 by decide), z1.2 254 (by decide), wI_ne _ _ _ (show 254 ≠ 269 by decide), c9.2 254 (by decide), c8.2 254 (by decide), c7.2 254 (by decide), c6.2 254 (by decide), c5.2 254 (by decide), c4.2 254 (by decide), c3.2 254 (by decide), c2.2 254 (by decide), c1.2 254 (by decide), c0.2 254 (by decide), e2 3 (by decide), if_pos (by decide)]; exact R.1.2.2.2.1⟩, fun j hj => by rw [gN_ne _ (by decide), wI_ne _ _ _ (show 258 ≠ 253 by decide), z1.2 258 (by decide), wI_ne _ _ _ (show 258 ≠ 269 by decide), c9.2 258 (by decide), c8.2 258 (by decide), c7.2 258 (by decide), c6.2 258 (by decide), c5.2 258 (by decide), v4 _ hj, c3.2 274 (by decide), c2.2 274 (by decide), c1.2 274 (by decide), c0.2 274 (by decide), e1.2 274 (by decide)]; exact R.2.2.1 j hj, fun v hv => ⟨by rw [gN_ne _ (by decide), wI_ne _ _ _ (show 259 ≠ 253 by decide), z1.2 259 (by decide), wI_ne _ _ _ (show 259 ≠ 269 by decide), c9.2 259 (by decide), c8.2 259 (by decide), c7.2 259 (by decide), c6.2 259 (by decide), v5 _ (Nat.lt_of_lt_of_le hv vl), c4.2 275 (by decide), c3.2 275 (by decide), c2.2 275 (by decide), c1.2 275 (by decide), c0.2 275 (by decide), e1.2 275 (by decide)]; exact (R.2.2.2.1 v hv).1, by rw [gN_ne _ (by decide), wI_ne _ _ _ (show 260 ≠ 253 by decide), z1.2 260 (by decide), wI_ne _ _ _ (show 260 ≠ 269 by decide), c9.2 260 (by decide), c8.2 260 (by decide), c7.2 260 (by decide), v6 _ (Nat.lt_of_lt_of_le hv vl), c5.2 276 (by decide), c4.2 276 (by decide), c3.2 276 (by decide), c2.2 276 (by decide), c1.2 276 (by decide), c0.2 276 (by decide), e1.2 276 (by decide)]; exact (R.2.2.2.1 v hv).2.1, by rw [gN_ne _ (by decide), wI_ne _ _ _ (show 261 ≠ 253 by decide), z1.2 261 (by decide), wI_ne _ _ _ (show 261 ≠ 269 by decide), c9.2 261 (by decide), c8.2 261 (by decide), v7 _ (Nat.lt_of_lt_of_le hv vl), c6.2 277 (by decide), c5.2 277 (by decide), c4.2 277 (by decide), c3.2 277 (by decide), c2.2 277 (by decide), c1.2 277 (by decide), c0.2 277 (by decide), e1.2 277 (by decide)]; exact (R.2.2.2.1 v hv).2.2⟩, fun v hv => ⟨by rw [gN_ne _ (by decide), wI_ne _ _ _ (show 263 ≠ 253 by decide), z1.2 263 (by decide), wI_ne _ _ _ (show 263 ≠ 269 by decide), c9.2 263 (by decide), v8 _ (Nat.lt_of_lt_of_le hv wl), c7.2 278 (by decide), c6.2 278 (by decide), c5.2 278 (by decide), c4.2 278 (by decide), c3.2 278 (by decide), c2.2 278 (by decide), c1.2 278 (by decide), c0.2 278 (by decide), e1.2 278 (by decide)]; exact (R.2.2.2.2 v hv).1, by rw [gN_ne _ (by decide), wI_ne _ _ _ (show 264 ≠ 253 by decide), z1.2 264 (by decide), wI_ne _ _ _ (show 264 ≠ 269 by decide), v9 _ (Nat.lt_of_lt_of_le hv wl), c8.2 279 (by decide), c7.2 279 (by decide), c6.2 279 (by decide), c5.2 279 (by decide), c4.2 279 (by decide), c3.2 279 (by decide), c2.2 279 (by decide), c1.2 279 (by decide), c0.2 279 (by decide), e1.2 279 (by decide)]; exact (R.2.2.2.2 v hv).2⟩, fun m hm => by rw [gN_ne _ (by decide), wI_ne _ _ _ (show 268 ≠ 253 by decide), z1.2 268 (by decide), wI_ne _ _ _ (show 268 ≠ 269 by decide), c9.2 268 (by decide), c8.2 268 (by decide), c7.2 268 (by decide), c6.2 268 (by decide), c5.2 268 (by decide), c4.2 268 (by decide), c3.2 268 (by decide), v2 _ hm, c1.2 272 (by decide), c0.2 272 (by decide), e1.2 272 (by decide)]; exact (R.2.1 m hm).2.1, by rw [gN_ne _ (by decide), wI_ne _ _ _ (show 269 ≠ 253 by decide), z1.2 269 (by decide), wI_at, jx_up_self, c9.2 254 (by decide), c8.2 254 (by decide), c7.2 254 (by decide), c6.2 254 (by decide), c5.2 254 (by decide), c4.2 254 (by decide), c3.2 254 (by decide), c2.2 254 (by decide), c1.2 254 (by decide), c0.2 254 (by decide), e2 4 (by decide), if_pos (by decide)]; exact R.1.2.2.2.2⟩, ⟨fun m hm => ⟨by rw [gN_ne _ (by decide), wI_ne _ _ _ (show 255 ≠ 253 by decide), z1.2 255 (by decide), wI_ne _ _ _ (show 255 ≠ 269 by decide), c9.2 255 (by decide), c8.2 255 (by decide), c7.2 255 (by decide), c6.2 255 (by decide), c5.2 255 (by decide), c4.2 255 (by decide), c3.2 255 (by decide), c2.2 255 (by decide), c1.2 255 (by decide), v0 _ hm, e1.2 271 (by decide)]; exact (R.2.1 m hm).1, by rw [gN_ne _ (by decide), wI_ne _ _ _ (show 256 ≠ 253 by decide), z1.2 256 (by decide), wI_ne _ _ _ (show 256 ≠ 269 by decide), c9.2 256 (by decide), c8.2 256 (by decide), c7.2 256 (by decide), c6.2 256 (by decide), c5.2 256 (by decide), c4.2 256 (by decide), c3.2 256 (by decide), c2.2 256 (by decide), v1 _ hm, c0.2 272 (by decide), e1.2 272 (by decide)]; exact (R.2.1 m hm).2.1, by rw [gN_ne _ (by decide), wI_ne _ _ _ (show 257 ≠ 253 by decide), z1.2 257 (by decide), wI_ne _ _ _ (show 257 ≠ 269 by decide), c9.2 257 (by decide), c8.2 257 (by decide), c7.2 257 (by decide), c6.2 257 (by decide), c5.2 257 (by decide), c4.2 257 (by decide), v3 _ hm, c2.2 273 (by decide), c1.2 273 (by decide), c0.2 273 (by decide), e1.2 273 (by decide)]; exact (R.2.1 m hm).2.2⟩, fun v hv => ?_, by rw [gN_ne _ (by decide), wI_ne _ _ _ (show 254 ≠ 253 by decide), z1.2 254 (by decide), wI_ne _ _ _ (show 254 ≠ 269 by decide), c9.2 254 (by decide), c8.2 254 (by decide), c7.2 254 (by decide), c6.2 254 (by decide), c5.2 254 (by decide), c4.2 254 (by decide), c3.2 254 (by decide), c2.2 254 (by decide), c1.2 254 (by decide), c0.2 254 (by decide), e2 4 (by decide), if_pos (by decide)]; exact R.1.2.2.2.2, ?_⟩, ⟨by rw [gN_ne _ (by decide), wI_ne _ _ _ (show 254 ≠ 253 by decide), z1.2 254 (by decide), wI_ne _ _ _ (show 254 ≠ 269 by decide), c9.2 254 (by decide), c8.2 254 (by decide), c7.2 254 (by decide), c6.2 254 (by decide), c5.2 254 (by decide), c4.2 254 (by decide), c3.2 254 (by decide), c2.2 254 (by decide), c1.2 254 (by decide), c0.2 254 (by decide), e3 8 (by decide), f1.2 254 (fun z => by unfold mnA at z; omega)]; exact hf, by rw [gN_ne _ (by decide), wI_ne _ _ _ (show 254 ≠ 253 by decide), z1.2 254 (by decide), wI_ne _ _ _ (show 254 ≠ 269 by decide), c9.2 254 (by decide), c8.2 254 (by decide), c7.2 254 (by decide), c6.2 254 (by decide), c5.2 254 (by decide), c4.2 254 (by decide), c3.2 254 (by decide), c2.2 254 (by decide), c1.2 254 (by decide), c0.2 254 (by decide), e3 7 (by decide), f1.2 254 (fun z => by unfold mnA at z; omega)]; exact hx⟩, ⟨by rw [gN_ne _ (by decide), wI_ne _ _ _ (show 254 ≠ 253 by decide), z1.2 254 (by decide), wI_ne _ _ _ (show 254 ≠ 269 by decide), c9.2 254 (by decide), c8.2 254 (by decide), c7.2 254 (by decide), c6.2 254 (by decide), c5.2 254 (by decide), c4.2 254 (by decide), c3.2 254 (by decide), c2.2 254 (by decide), c1.2 254 (by decide), c0.2 254 (by decide), e2 6 (by decide), if_neg (by decide)]; rfl, fun k hk => absurd hk (Nat.not_lt_zero k)⟩, ?_, fun i hi => absurd hi (Nat.not_lt_zero i)⟩
      · exact (((((((((((((((f1.mo (fun b => mn_mx)).tr (e1.mo (fun b z => Or.inr (Or.inl (by omega))))).tr (c0.mo (fun b z => Or.inr (Or.inl (by omega))))).tr (c1.mo (fun b z => Or.inr (Or.inl (by omega))))).tr (c2.mo (fun b z => Or.inr (Or.inr (Or.inl z))))).tr (c3.mo (fun b z => Or.inr (Or.inl (by omega))))).tr (c4.mo (fun b z => Or.inr (Or.inl (by omega))))).tr (c5.mo (fun b z => Or.inr (Or.inl (by omega))))).tr (c6.mo (fun b z => Or.inr (Or.inl (by omega))))).tr (c7.mo (fun b z => Or.inr (Or.inl (by omega))))).tr (c8.mo (fun b z => Or.inr (Or.inl (by omega))))).tr (c9.mo (fun b z => Or.inr (Or.inl (by omega))))).wI (Or.inr (Or.inr (Or.inr (Or.inl rfl)))))).tr (z1.mo (fun b z => Or.inr (Or.inl (by omega))))).wI (Or.inl rfl)
      · intro j a0 a1 a2 a3 a4 a5 a6
        rw [wI_at, jx_up_ne _ _ a6, z1.2 253 (by decide), wI_ne _ _ _ (show 253 ≠ 269 by decide), c9.2 253 (by decide), c8.2 253 (by decide), c7.2 253 (by decide), c6.2 253 (by decide), c5.2 253 (by decide), c4.2 253 (by decide), c3.2 253 (by decide), c2.2 253 (by decide), c1.2 253 (by decide), c0.2 253 (by decide), e1.2 253 (by decide)]
        exact g1 j a0 a1 a2 a3 a4 a5
      · rw [wI_at, jx_up_ne _ _ (by decide), z1.2 253 (by decide), wI_ne _ _ _ (show 253 ≠ 269 by decide), c9.2 253 (by decide), c8.2 253 (by decide), c7.2 253 (by decide), c6.2 253 (by decide), c5.2 253 (by decide), c4.2 253 (by decide), c3.2 253 (by decide), c2.2 253 (by decide), c1.2 253 (by decide), c0.2 253 (by decide), e1.2 253 (by decide)]
        exact t1
      · rw [gN_ne _ (by decide), wI_ne _ _ _ (show 262 ≠ 253 by decide), z2 v hv, cr v hv]
      · rw [ni]
        rw [gN_ne _ (by decide), wI_ne _ _ _ (show 254 ≠ 253 by decide), z1.2 254 (by decide), wI_ne _ _ _ (show 254 ≠ 269 by decide), c9.2 254 (by decide), c8.2 254 (by decide), c7.2 254 (by decide), c6.2 254 (by decide), c5.2 254 (by decide), c4.2 254 (by decide), c3.2 254 (by decide), c2.2 254 (by decide), c1.2 254 (by decide), c0.2 254 (by decide), e2 5 (by decide), if_neg (by decide)]
      · show (if 293 = 293 then _ else _) = _
        rw [if_pos rfl, wI_at, jx_up_self]
        rfl
