/-! nights: the class, a whole night -/
set_option maxHeartbeats 2000000 in
theorem t_Lw_tellWords (d : Nat) {bc bs : Nat} {h : jx_H} {s a m : Nat} {S : MS} {L : ML} (H : jx_St h) (hs : h.2.2.2 51 0 = some s) (P : jx_Sp h s) (A : jx_La h a) (dj : (s + 12 < a ∨ a + 4 < s) ∧ (a + 4 < 51 ∨ 66 < a) ∧ (s + 12 < 51 ∨ 66 < s)) (hS : rS h.2.1 s S) (wS : wfS S) (hL : rL h.2.1 a L) (hm : m < S.1.1) (hmi : S.1.1 ≤ 10) : jx_Tr (d + 2) bc bs 8005 [.ref 51, .ref a, .int (nI m), .int (nI (sidN S L.1 S.1.2.1))] h (fun r h' => r = none ∧ fC (fun _ => False) h h' ∧ (∀ b, b ≠ 66 → h'.2.2.1 b = h.2.2.1 b) ∧ ∀ w : Int32, h.2.2.1 66 5 = w.toInt64 → ∀ j, j < 12 → h'.2.2.1 66 j = wdF S L w m j) := by
  refine jx_tr jM_Lw_tellWords rfl rfl (lv := [some (.ref 51), some (.ref a), some (.int (nI m)), some (.int (nI (sidN S L.1 S.1.2.1))), none, none]) rfl ?_
  have w8 := wS.2.1
  obtain ⟨r1, r2, r3, r4, r5, r6⟩ := id hL
  have hb : bhd S.1.1 m < 10 := by unfold bhd; split <;> omega
  refine je_iload2 (pc := 0) d8005_0 rfl ?_
  refine ju_tern1 (pc := 1) (V := nI (m - 1)) 11 ?_ (fun jn1 => ?_)
  · refine ju_istore (pc := 11) (lv' := [some _, some _, some _, some _, some _, none]) d8005_11 rfl rfl ?_
    refine je_iload2 (pc := 13) d8005_13 rfl ?_
    refine je_aload0 (pc := 14) d8005_14 rfl ?_
    refine ju_getr (pc := 15) (b := s) d8005_15 jF_8_12 rfl (sK51 H) hs ?_
    refine ju_geti (pc := 18) d8005_18 jF_8_50 rfl P.1.1 ?_
    refine ju_eqi (v := nI S.1.1) hS.1.1 ?_
    refine je_iconst (pc := 21) (v := 1) d8005_21 rfl ?_
    refine je_isub (pc := 22) d8005_22 ?_
    refine ju_eqi (v := nI ((S.1.1) - 1)) (pk_sub (a := (S.1.1)) (b := 1) (by omega)) ?_
    refine ju_tern2 (pc := 23) (V := nI (bhd S.1.1 m)) 33 ?_ (fun jn23 => ?_)
    · refine ju_istore (pc := 33) (lv' := [some _, some _, some _, some _, some _, some _]) d8005_33 rfl rfl ?_
      refine je_aload0 (pc := 35) d8005_35 rfl ?_
      refine ju_getr (pc := 36) (b := 66) d8005_36 jF_8_24 rfl (sK51 H) (sR51_3 H) ?_
      refine je_iconst (pc := 39) (v := 0) d8005_39 rfl ?_
      refine je_iload2 (pc := 40) d8005_40 rfl ?_
      refine je_i2l (pc := 41) d8005_41 ?_
      refine ju_last (pc := 42) (jn := 0) d8005_42 (sK66 H) (by first | assumption | exact jx_ok_dec (by decide)) (by decide) ?_
      refine je_aload0 (pc := 43) d8005_43 rfl ?_
      refine ju_getr (pc := 44) (b := 66) d8005_44 jF_8_24 rfl (sK51 H.wL) (sR51_3 H.wL) ?_
      refine je_iconst (pc := 47) (v := 1) d8005_47 rfl ?_
      refine je_aload1 (pc := 48) d8005_48 rfl ?_
      refine ju_getr (pc := 49) (b := (a + 1)) d8005_49 jF_8_102 rfl A.wL.1 A.wL.2.1.2 ?_
      refine je_iload2 (pc := 52) d8005_52 rfl ?_
      refine ju_iald (pc := 53) (jn := (m)) d8005_53 A.wL.2.1.1 (vp_in_nI (by omega) (by decide)) (nI_clamp (by omega)) ?_
      refine ju_eqi (v := L.1 m) (r1 m (by omega)) ?_
      refine je_i2l (pc := 54) d8005_54 ?_
      refine ju_last (pc := 55) (jn := 1) d8005_55 (sK66 H.wL) (by first | assumption | exact jx_ok_dec (by decide)) (by decide) ?_
      refine je_aload0 (pc := 56) d8005_56 rfl ?_
      refine ju_getr (pc := 57) (b := 66) d8005_57 jF_8_24 rfl (sK51 H.wL.wL) (sR51_3 H.wL.wL) ?_
      refine je_iconst (pc := 60) (v := 2) d8005_60 rfl ?_
      refine je_aload1 (pc := 61) d8005_61 rfl ?_
      refine ju_getr (pc := 62) (b := (a + 2)) d8005_62 jF_8_89 rfl A.wL.wL.1 A.wL.wL.2.2.1.2 ?_
      refine je_iload2 (pc := 65) d8005_65 rfl ?_
      refine ju_iald (pc := 66) (jn := (m)) d8005_66 A.wL.wL.2.2.1.1 (vp_in_nI (by omega) (by decide)) (nI_clamp (by omega)) ?_
      refine ju_eqi (v := L.2.1 m) (r2 m (by omega)) ?_
      refine je_i2l (pc := 67) d8005_67 ?_
      refine ju_last (pc := 68) (jn := 2) d8005_68 (sK66 H.wL.wL) (by first | assumption | exact jx_ok_dec (by decide)) (by decide) ?_
      refine je_aload0 (pc := 69) d8005_69 rfl ?_
      refine ju_getr (pc := 70) (b := 66) d8005_70 jF_8_24 rfl (sK51 H.wL.wL.wL) (sR51_3 H.wL.wL.wL) ?_
      refine je_iconst (pc := 73) (v := 3) d8005_73 rfl ?_
      refine je_aload1 (pc := 74) d8005_74 rfl ?_
      refine ju_getr (pc := 75) (b := (a + 3)) d8005_75 jF_8_95 rfl A.wL.wL.wL.1 A.wL.wL.wL.2.2.2.1.2 ?_
      refine je_iload2 (pc := 78) d8005_78 rfl ?_
      refine ju_iald (pc := 79) (jn := (m)) d8005_79 A.wL.wL.wL.2.2.2.1.1 (vp_in_nI (by omega) (by decide)) (nI_clamp (by omega)) ?_
      refine ju_eqi (v := L.2.2.1 m) (r3 m (by omega)) ?_
      refine je_i2l (pc := 80) d8005_80 ?_
      refine ju_last (pc := 81) (jn := 3) d8005_81 (sK66 H.wL.wL.wL) (by first | assumption | exact jx_ok_dec (by decide)) (by decide) ?_
      refine je_aload0 (pc := 82) d8005_82 rfl ?_
      refine ju_getr (pc := 83) (b := 66) d8005_83 jF_8_24 rfl (sK51 H.wL.wL.wL.wL) (sR51_3 H.wL.wL.wL.wL) ?_
      refine je_iconst (pc := 86) (v := 4) d8005_86 rfl ?_
      refine je_aload0 (pc := 87) d8005_87 rfl ?_
      refine ju_getr (pc := 88) (b := s) d8005_88 jF_8_12 rfl (sK51 H.wL.wL.wL.wL) hs ?_
      refine ju_geti (pc := 91) d8005_91 jF_8_92 rfl P.wL.wL.wL.wL.1.1 ?_
      refine ju_eqi (v := S.1.2.2.2) hS.1.2.1 ?_
      refine je_i2l (pc := 94) d8005_94 ?_
      refine ju_last (pc := 95) (jn := 4) d8005_95 (sK66 H.wL.wL.wL.wL) (by first | assumption | exact jx_ok_dec (by decide)) (by decide) ?_
      refine je_aload0 (pc := 96) d8005_96 rfl ?_
      refine ju_getr (pc := 97) (b := 66) d8005_97 jF_8_24 rfl (sK51 H.wL.wL.wL.wL.wL) (sR51_3 H.wL.wL.wL.wL.wL) ?_
      refine je_bipush (pc := 100) (v := 6) d8005_100 rfl ?_
      refine je_aload1 (pc := 102) d8005_102 rfl ?_
      refine ju_geti (pc := 103) d8005_103 jF_8_32 rfl A.wL.wL.wL.wL.wL.1 ?_
      refine ju_eqi (v := L.2.2.2.2.2) r6 ?_
      refine je_i2l (pc := 106) d8005_106 ?_
      refine ju_last (pc := 107) (jn := 6) d8005_107 (sK66 H.wL.wL.wL.wL.wL) (by first | assumption | exact jx_ok_dec (by decide)) (by decide) ?_
      refine je_aload0 (pc := 108) d8005_108 rfl ?_
      refine ju_getr (pc := 109) (b := 66) d8005_109 jF_8_24 rfl (sK51 H.wL.wL.wL.wL.wL.wL) (sR51_3 H.wL.wL.wL.wL.wL.wL) ?_
      refine je_bipush (pc := 112) (v := 7) d8005_112 rfl ?_
      refine je_aload1 (pc := 114) d8005_114 rfl ?_
      refine ju_getr (pc := 115) (b := (a + 1)) d8005_115 jF_8_102 rfl A.wL.wL.wL.wL.wL.wL.1 A.wL.wL.wL.wL.wL.wL.2.1.2 ?_
      refine je_iload (pc := 118) d8005_118 rfl ?_
      refine ju_iald (pc := 120) (jn := (m - 1)) d8005_120 A.wL.wL.wL.wL.wL.wL.2.1.1 (vp_in_nI (by omega) (by decide)) (nI_clamp (by omega)) ?_
      refine ju_eqi (v := L.1 (m - 1)) (r1 (m - 1) (by omega)) ?_
      refine je_i2l (pc := 121) d8005_121 ?_
      refine ju_last (pc := 122) (jn := 7) d8005_122 (sK66 H.wL.wL.wL.wL.wL.wL) (by first | assumption | exact jx_ok_dec (by decide)) (by decide) ?_
      refine je_aload0 (pc := 123) d8005_123 rfl ?_
      refine ju_getr (pc := 124) (b := 66) d8005_124 jF_8_24 rfl (sK51 H.wL.wL.wL.wL.wL.wL.wL) (sR51_3 H.wL.wL.wL.wL.wL.wL.wL) ?_
      refine je_bipush (pc := 127) (v := 8) d8005_127 rfl ?_
      refine je_aload1 (pc := 129) d8005_129 rfl ?_
      refine ju_getr (pc := 130) (b := (a + 1)) d8005_130 jF_8_102 rfl A.wL.wL.wL.wL.wL.wL.wL.1 A.wL.wL.wL.wL.wL.wL.wL.2.1.2 ?_
      refine je_iload (pc := 133) d8005_133 rfl ?_
      refine ju_iald (pc := 135) (jn := (bhd S.1.1 m)) d8005_135 A.wL.wL.wL.wL.wL.wL.wL.2.1.1 (vp_in_nI (by omega) (by decide)) (nI_clamp (by omega)) ?_
      refine ju_eqi (v := L.1 (bhd S.1.1 m)) (r1 _ (by omega)) ?_
      refine je_i2l (pc := 136) d8005_136 ?_
      refine ju_last (pc := 137) (jn := 8) d8005_137 (sK66 H.wL.wL.wL.wL.wL.wL.wL) (by first | assumption | exact jx_ok_dec (by decide)) (by decide) ?_
      refine je_aload0 (pc := 138) d8005_138 rfl ?_
      refine ju_getr (pc := 139) (b := 66) d8005_139 jF_8_24 rfl (sK51 H.wL.wL.wL.wL.wL.wL.wL.wL) (sR51_3 H.wL.wL.wL.wL.wL.wL.wL.wL) ?_
      refine je_bipush (pc := 142) (v := 9) d8005_142 rfl ?_
      refine je_iload3 (pc := 144) d8005_144 rfl ?_
      refine ju_callsN (pc := 145) (as := [_]) d8005_145 jL_8_105 jM_Db_westIn rfl rfl (by exact Nat.le_of_ble_eq_true rfl) (t_Db_westIn (d + 0) _) (fun r145 h145 q145 => ?_)
      obtain ⟨rfl, e145⟩ := q145
      obtain rfl := e145.symm
      refine je_aload0 (pc := 148) d8005_148 rfl ?_
      refine ju_getr (pc := 149) (b := s) d8005_149 jF_8_12 rfl (sK51 H.wL.wL.wL.wL.wL.wL.wL.wL) hs ?_
      refine ju_getr (pc := 152) (b := (s + 5)) d8005_152 jF_8_108 rfl P.wL.wL.wL.wL.wL.wL.wL.wL.1.1 P.wL.wL.wL.wL.wL.wL.wL.wL.1.2.2.2.2.2.1.2 ?_
      refine je_iload2 (pc := 155) d8005_155 rfl ?_
      refine ju_iald (pc := 156) (jn := (m)) d8005_156 P.wL.wL.wL.wL.wL.wL.wL.wL.1.2.2.2.2.2.1.1 (vp_in_nI (by omega) (by decide)) (nI_clamp (by omega)) ?_
      refine ju_eqi (v := mk_in S.2.1.2.1 (nI m) S.1.2.1) (hS.2.2.2.1 m (by omega)) ?_
      refine je_iand (pc := 157) d8005_157 ?_
      refine ju_calls (pc := 158) (as := [_]) d8005_158 jL_8_111 jM_Int_bitCount rfl rfl (by exact Nat.le_of_ble_eq_true rfl) (t_Int_bitCount (d + 0) _) (fun r158 h158 q158 => ?_)
      obtain ⟨rfl, e158⟩ := q158
      obtain rfl := e158.symm
      refine ju_eqi (v := nI (inC S L.1 m 0 S.1.2.1)) (inW_ok S L.1 m w8) ?_
      refine je_i2l (pc := 161) d8005_161 ?_
      refine ju_last (pc := 162) (jn := 9) d8005_162 (sK66 H.wL.wL.wL.wL.wL.wL.wL.wL) (by first | assumption | exact jx_ok_dec (by decide)) (by decide) ?_
      refine je_aload0 (pc := 163) d8005_163 rfl ?_
      refine ju_getr (pc := 164) (b := 66) d8005_164 jF_8_24 rfl (sK51 H.wL.wL.wL.wL.wL.wL.wL.wL.wL) (sR51_3 H.wL.wL.wL.wL.wL.wL.wL.wL.wL) ?_
      refine je_bipush (pc := 167) (v := 10) d8005_167 rfl ?_
      refine je_iload3 (pc := 169) d8005_169 rfl ?_
      refine ju_callsN (pc := 170) (as := [_]) d8005_170 jL_8_116 jM_Db_eastIn rfl rfl (by exact Nat.le_of_ble_eq_true rfl) (t_Db_eastIn (d + 0) _) (fun r170 h170 q170 => ?_)
      obtain ⟨rfl, e170⟩ := q170
      obtain rfl := e170.symm
      refine je_aload0 (pc := 173) d8005_173 rfl ?_
      refine ju_getr (pc := 174) (b := s) d8005_174 jF_8_12 rfl (sK51 H.wL.wL.wL.wL.wL.wL.wL.wL.wL) hs ?_
      refine ju_getr (pc := 177) (b := (s + 5)) d8005_177 jF_8_108 rfl P.wL.wL.wL.wL.wL.wL.wL.wL.wL.1.1 P.wL.wL.wL.wL.wL.wL.wL.wL.wL.1.2.2.2.2.2.1.2 ?_
      refine je_iload2 (pc := 180) d8005_180 rfl ?_
      refine ju_iald (pc := 181) (jn := (m)) d8005_181 P.wL.wL.wL.wL.wL.wL.wL.wL.wL.1.2.2.2.2.2.1.1 (vp_in_nI (by omega) (by decide)) (nI_clamp (by omega)) ?_
      refine ju_eqi (v := mk_in S.2.1.2.1 (nI m) S.1.2.1) (hS.2.2.2.1 m (by omega)) ?_
      refine je_iand (pc := 182) d8005_182 ?_
      refine ju_calls (pc := 183) (as := [_]) d8005_183 jL_8_111 jM_Int_bitCount rfl rfl (by exact Nat.le_of_ble_eq_true rfl) (t_Int_bitCount (d + 0) _) (fun r183 h183 q183 => ?_)
      obtain ⟨rfl, e183⟩ := q183
      obtain rfl := e183.symm
      refine ju_eqi (v := nI (inC S L.1 m 1 S.1.2.1)) (inE_ok S L.1 m w8) ?_
      refine je_i2l (pc := 186) d8005_186 ?_
      refine ju_last (pc := 187) (jn := 10) d8005_187 (sK66 H.wL.wL.wL.wL.wL.wL.wL.wL.wL) (by first | assumption | exact jx_ok_dec (by decide)) (by decide) ?_
      refine je_aload0 (pc := 188) d8005_188 rfl ?_
      refine ju_getr (pc := 189) (b := 66) d8005_189 jF_8_24 rfl (sK51 H.wL.wL.wL.wL.wL.wL.wL.wL.wL.wL) (sR51_3 H.wL.wL.wL.wL.wL.wL.wL.wL.wL.wL) ?_
      refine je_bipush (pc := 192) (v := 11) d8005_192 rfl ?_
      refine je_aload1 (pc := 194) d8005_194 rfl ?_
      refine ju_geti (pc := 195) d8005_195 jF_8_119 rfl A.wL.wL.wL.wL.wL.wL.wL.wL.wL.wL.1 ?_
      refine ju_eqi (v := L.2.2.2.2.1) r5 ?_
      refine je_iload (pc := 198) d8005_198 rfl ?_
      refine je_ishr (pc := 200) d8005_200 ?_
      refine je_iconst (pc := 201) (v := 1) d8005_201 rfl ?_
      refine je_iand (pc := 202) d8005_202 ?_
      refine ju_eqi (v := b2 (bkd L.2.2.2.2.1 (nI (m - 1)))) (bk_b2 _ _) ?_
      refine je_aload1 (pc := 203) d8005_203 rfl ?_
      refine ju_geti (pc := 204) d8005_204 jF_8_119 rfl A.wL.wL.wL.wL.wL.wL.wL.wL.wL.wL.1 ?_
      refine ju_eqi (v := L.2.2.2.2.1) r5 ?_
      refine je_iload (pc := 207) d8005_207 rfl ?_
      refine je_ishr (pc := 209) d8005_209 ?_
      refine je_iconst (pc := 210) (v := 1) d8005_210 rfl ?_
      refine je_iand (pc := 211) d8005_211 ?_
      refine ju_eqi (v := b2 (bkd L.2.2.2.2.1 (nI (bhd S.1.1 m)))) (bk_b2 _ _) ?_
      refine je_iadd (pc := 212) d8005_212 ?_
      refine je_i2l (pc := 213) d8005_213 ?_
      refine ju_last (pc := 214) (jn := 11) d8005_214 (sK66 H.wL.wL.wL.wL.wL.wL.wL.wL.wL.wL) (by first | assumption | exact jx_ok_dec (by decide)) (by decide) ?_
      refine je_ret (pc := 215) d8005_215 rfl ?_
      refine ⟨rfl, ⟨⟨rfl, rfl⟩, fun _ _ => rfl⟩, fun b hb => by simp only [wL_ne _ _ _ hb], fun w hw j hj => ?_⟩
      match j, hj with
      | 0, _ => rfl
      | 1, _ => rfl
      | 2, _ => rfl
      | 3, _ => rfl
      | 4, _ => rfl
      | 5, _ => exact hw
      | 6, _ => rfl
      | 7, _ => rfl
      | 8, _ => rfl
      | 9, _ => rfl
      | 10, _ => rfl
      | 11, _ => rfl
    · refine jn_icge (pc := 23) (a := (m)) (b := ((S.1.1) - 1)) 32 d8005_23 (by decide) (by omega) (by omega) (fun c23 => ?_) (fun c23 => ?_)
      · refine je_iload2 (pc := 32) d8005_32 rfl ?_
        refine ju_eqi (v := nI (bhd S.1.1 m)) (by rw [show bhd S.1.1 m = m by unfold bhd; rw [if_neg (by omega)]]) ?_
        exact jn23
      · refine je_iload2 (pc := 26) d8005_26 rfl ?_
        refine je_iconst (pc := 27) (v := 1) d8005_27 rfl ?_
        refine je_iadd (pc := 28) d8005_28 ?_
        refine ju_eqi (v := nI ((m) + 1)) (nI_add (m) 1) ?_
        refine je_goto (pc := 29) 33 d8005_29 (by decide) ?_
        refine ju_eqi (v := nI (bhd S.1.1 m)) (by rw [show bhd S.1.1 m = m + 1 by unfold bhd; rw [if_pos (by omega)]]) ?_
        exact jn23
  · refine jn_ifle (pc := 1) (a := (m)) 10 d8005_1 (by decide) (by omega) (fun c1 => ?_) (fun c1 => ?_)
    · refine je_iload2 (pc := 10) d8005_10 rfl ?_
      refine ju_eqi (v := nI (m - 1)) (by rw [show m - 1 = m by omega]) ?_
      exact jn1
    · refine je_iload2 (pc := 4) d8005_4 rfl ?_
      refine je_iconst (pc := 5) (v := 1) d8005_5 rfl ?_
      refine je_isub (pc := 6) d8005_6 ?_
      refine ju_eqi (v := nI ((m) - 1)) (pk_sub (a := (m)) (b := 1) (by omega)) ?_
      refine je_goto (pc := 7) 11 d8005_7 (by decide) ?_
      refine ju_eqi (v := nI (m - 1)) rfl ?_
      exact jn1
/-- where lands lie -/
def lA (a : Nat) : Prop := a = 40 ∨ a = 68 ∨ a = 73 ∨ a = 82 ∨ a = 87 ∨ a = 92 ∨ a = 97 ∨ a = 102
theorem lA_La {h : jx_H} (H : jx_St h) {a : Nat} (q : lA a) : jx_La h a := by
  rcases q with rfl | rfl | rfl | rfl | rfl | rfl | rfl | rfl
  · exact ⟨sK40 H, ⟨sK41 H, sR40_0 H⟩, ⟨sK42 H, sR40_1 H⟩, ⟨sK43 H, sR40_2 H⟩, ⟨sK44 H, sR40_3 H⟩⟩
  · exact ⟨sK68 H, ⟨sK69 H, sR68_0 H⟩, ⟨sK70 H, sR68_1 H⟩, ⟨sK71 H, sR68_2 H⟩, ⟨sK72 H, sR68_3 H⟩⟩
  · exact ⟨sK73 H, ⟨sK74 H, sR73_0 H⟩, ⟨sK75 H, sR73_1 H⟩, ⟨sK76 H, sR73_2 H⟩, ⟨sK77 H, sR73_3 H⟩⟩
  · exact ⟨sK82 H, ⟨sK83 H, sR82_0 H⟩, ⟨sK84 H, sR82_1 H⟩, ⟨sK85 H, sR82_2 H⟩, ⟨sK86 H, sR82_3 H⟩⟩
  · exact ⟨sK87 H, ⟨sK88 H, sR87_0 H⟩, ⟨sK89 H, sR87_1 H⟩, ⟨sK90 H, sR87_2 H⟩, ⟨sK91 H, sR87_3 H⟩⟩
  · exact ⟨sK92 H, ⟨sK93 H, sR92_0 H⟩, ⟨sK94 H, sR92_1 H⟩, ⟨sK95 H, sR92_2 H⟩, ⟨sK96 H, sR92_3 H⟩⟩
  · exact ⟨sK97 H, ⟨sK98 H, sR97_0 H⟩, ⟨sK99 H, sR97_1 H⟩, ⟨sK100 H, sR97_2 H⟩, ⟨sK101 H, sR97_3 H⟩⟩
  · exact ⟨sK102 H, ⟨sK103 H, sR102_0 H⟩, ⟨sK104 H, sR102_1 H⟩, ⟨sK105 H, sR102_2 H⟩, ⟨sK106 H, sR102_3 H⟩⟩
theorem lA_dj {s a : Nat} (q : lA a) (z : sA s) : (s + 12 < a ∨ a + 4 < s) ∧ (a + 4 < 51 ∨ 66 < a) ∧ (s + 12 < 51 ∨ 66 < s) := by
  unfold lA at q
  unfold sA at z
  omega
theorem r_Rl {h : jx_H} (H : jx_St h) : ∀ {f : Nat}, f < 6 → jx_Rl h (125 + 6 * f)
  | 0, _ => ⟨sK125 H, ⟨sK126 H, sR125_0 H⟩, ⟨sK127 H, sR125_2 H⟩, ⟨sK128 H, sR125_3 H⟩, ⟨sK129 H, sR125_4 H⟩, ⟨sK130 H, sR125_6 H⟩⟩
  | 1, _ => ⟨sK131 H, ⟨sK132 H, sR131_0 H⟩, ⟨sK133 H, sR131_2 H⟩, ⟨sK134 H, sR131_3 H⟩, ⟨sK135 H, sR131_4 H⟩, ⟨sK136 H, sR131_6 H⟩⟩
  | 2, _ => ⟨sK137 H, ⟨sK138 H, sR137_0 H⟩, ⟨sK139 H, sR137_2 H⟩, ⟨sK140 H, sR137_3 H⟩, ⟨sK141 H, sR137_4 H⟩, ⟨sK142 H, sR137_6 H⟩⟩
  | 3, _ => ⟨sK143 H, ⟨sK144 H, sR143_0 H⟩, ⟨sK145 H, sR143_2 H⟩, ⟨sK146 H, sR143_3 H⟩, ⟨sK147 H, sR143_4 H⟩, ⟨sK148 H, sR143_6 H⟩⟩
  | 4, _ => ⟨sK149 H, ⟨sK150 H, sR149_0 H⟩, ⟨sK151 H, sR149_2 H⟩, ⟨sK152 H, sR149_3 H⟩, ⟨sK153 H, sR149_4 H⟩, ⟨sK154 H, sR149_6 H⟩⟩
  | 5, _ => ⟨sK155 H, ⟨sK156 H, sR155_0 H⟩, ⟨sK157 H, sR155_2 H⟩, ⟨sK158 H, sR155_3 H⟩, ⟨sK159 H, sR155_4 H⟩, ⟨sK160 H, sR155_6 H⟩⟩
theorem warm_ok {I : Nat → Nat → Int32} {s : Nat} {S : MS} (hS : rS I s S) (x : Int32) : (if ¬ x < 0 ∧ x < 100 then I (s + 1) x.toNatClampNeg else 0) = warmF S x := by
  unfold warmF
  split
  · rename_i c
    obtain ⟨j, hj, rfl⟩ := nI_of c.1
    rw [nI_clamp hj]
    exact hS.2.1 j ((nI_ltI (b := 100) hj (by decide)).mp c.2)
  · rfl
theorem croF_ok {S : MS} {l l' c : Nat → Int32} (h8 : S.1.2.1 ≤ 8) {v : Nat} (hv : v < 8) : ccF 8 (crN S l l' S.1.2.1) c v = croF S l l' c v := by
  unfold ccF croF
  rw [crN_bit]
  by_cases q : v < S.1.2.1 ∧ ¬ sdM S l v = sdM S l' v
  · rw [if_pos q, if_pos ⟨hv, decide_eq_true q⟩]
  · rw [if_neg q, if_neg (fun z => q (of_decide_eq_true z.2))]

set_option maxHeartbeats 4000000 in
theorem lw_tail {d bc bs : Nat} {h : jx_H} {Q : Option Value → jx_H → Prop} {s a nn : Nat} {S : MS} {L : ML} {ft : Nat → Int32} (H : jx_St h) (hs : h.2.2.2 51 0 = some s) (P : jx_Sp h s) (A : jx_La h a) (dj : (s + 12 < a ∨ a + 4 < s) ∧ (a + 4 < 51 ∨ 66 < a) ∧ (s + 12 < 51 ∨ 66 < s)) (hS : rS h.2.1 s S) (wS : wfS S) (h0 : 0 < S.1.1) (hmi : S.1.1 ≤ 10) (hL : rL h.2.1 a L) (hf : ∀ m, m < S.1.1 → h.2.1 65 m = ft m) (hN : L.2.2.2.2.2 = nI nn) (hn : nn < 998) (x0 x3 : Int32) (x5 : Option Value)
  (hQ : ∀ h', fC (fun b => a ≤ b ∧ b ≤ a + 4) h h' → rL h'.2.1 a ((sagN L.2.2.2.2.1 (S.1.1 - 1) (moveF S.1.1 ft L.1)), L.2.1, L.2.2.1, croF S L.1 (sagN L.2.2.2.2.1 (S.1.1 - 1) (moveF S.1.1 ft L.1)) L.2.2.2.1, L.2.2.2.2.1, L.2.2.2.2.2 + 1) → Q (some (.int (nI (crN S L.1 (sagN L.2.2.2.2.1 (S.1.1 - 1) (moveF S.1.1 ft L.1)) S.1.2.1)))) h') : jx_Ev (d + 4) bc bs 8002 137 [some (.ref 51), some (.ref a), some (.int x0), some (.int x3), some (.int (nI (sidN S L.1 S.1.2.1))), x5] [] h Q := by
  have w8 := wS.2.1
  obtain ⟨r1, r2, r3, r4, r5, r6⟩ := id hL
  refine je_iconst (pc := 137) (v := 0) d8002_137 rfl ?_
  refine ju_istore (pc := 138) (lv' := [some _, some _, some _, some _, some _, some _]) d8002_138 rfl rfl ?_
  refine je_loop (σ := Unit) (S.1.1) (fun k xx => [some (.ref 51), some (.ref a), some (.int x0), some (.int x3), some (.int (nI (sidN S L.1 S.1.2.1))), some (.int (nI k))]) (fun k _ h' => fC (fun b => b = a + 1) h h' ∧ ∀ m, m < 10 → h'.2.1 (a + 1) m = moveF k ft L.1 m) (fun k xx h' hk e kk => ?_) (fun xx h' e => ?_) (0) () h (by omega) ⟨fC.rf, fun m hm => (r1 m hm).trans (moveF_k (Nat.zero_le m)).symm⟩
  · obtain ⟨e1, e2⟩ := e
    have H1 := e1.St H
    have P1 := e1.Sp P
    have A1 := e1.La A
    have hs1 := e1.rr hs
    have em : h'.2.1 s 0 = nI S.1.1 := by rw [e1.2 s (by omega)]; exact hS.1.1
    refine je_iload (pc := 140) d8002_140 rfl ?_
    refine je_aload0 (pc := 142) d8002_142 rfl ?_
    refine ju_getr (pc := 143) (b := s) d8002_143 jF_8_12 rfl (sK51 H1) hs1 ?_
    refine ju_geti (pc := 146) d8002_146 jF_8_50 rfl P1.1.1 ?_
    refine ju_eqi (v := nI S.1.1) em ?_
    refine jn_icge (pc := 149) (a := (k)) (b := (S.1.1)) 171 d8002_149 (by decide) (by omega) (by omega) (fun c149 => by exfalso; omega) (fun c149 => ?_)
    refine je_aload1 (pc := 152) d8002_152 rfl ?_
    refine je_iload (pc := 153) d8002_153 rfl ?_
    refine je_aload0 (pc := 155) d8002_155 rfl ?_
    refine ju_getr (pc := 156) (b := 65) d8002_156 jF_8_18 rfl (sK51 H1) (sR51_2 H1) ?_
    refine je_iload (pc := 159) d8002_159 rfl ?_
    refine ju_iald (pc := 161) (jn := (k)) d8002_161 (sK65 H1) (vp_in_nI (by omega) (by decide)) (nI_clamp (by omega)) ?_
    refine ju_eqi (v := ft k) (by rw [e1.2 65 (by omega)]; exact hf k (by omega)) ?_
    refine ju_callv (pc := 162) (as := [_, _]) d8002_162 jL_8_68 jM_La_moveLine rfl (by decide) A1.1 rfl (by exact Nat.le_of_ble_eq_true rfl) (t_La_moveLine (d + 1) A1 (m := k) (by omega) _) (fun r162 h162 q162 => ?_)
    obtain ⟨rfl, e162⟩ := q162
    obtain rfl := e162.symm
    refine ju_incN (pc := 165) (v := nI ((k) + 1)) (lv' := [some _, some _, some _, some _, some _, some _]) d8002_165 rfl (nI_1 (k)) rfl ?_
    refine je_goto (pc := 168) 140 d8002_168 (by decide) ?_
    refine kk () _ ⟨e1.wI rfl, fun m hm => ?_⟩
    rw [wI_at, ← moveF_s m]
    unfold jx_up
    rw [e2 m hm, e2 k (by omega), moveF_k (Nat.le_refl k)]
  · obtain ⟨e1, e2⟩ := e
    have H1 := e1.St H
    have P1 := e1.Sp P
    have A1 := e1.La A
    have hs1 := e1.rr hs
    have em : h'.2.1 s 0 = nI S.1.1 := by rw [e1.2 s (by omega)]; exact hS.1.1
    refine je_iload (pc := 140) d8002_140 rfl ?_
    refine je_aload0 (pc := 142) d8002_142 rfl ?_
    refine ju_getr (pc := 143) (b := s) d8002_143 jF_8_12 rfl (sK51 H1) hs1 ?_
    refine ju_geti (pc := 146) d8002_146 jF_8_50 rfl P1.1.1 ?_
    refine ju_eqi (v := nI S.1.1) em ?_
    refine jn_icge (pc := 149) (a := ((S.1.1))) (b := (S.1.1)) 171 d8002_149 (by decide) (by omega) (by omega) (fun c149 => ?_) (fun c149 => by exfalso; omega)
    refine je_aload0 (pc := 171) d8002_171 rfl ?_
    refine je_aload1 (pc := 172) d8002_172 rfl ?_
    refine ju_callv (pc := 173) (as := [_]) d8002_173 jL_8_72 jM_Lw_sag rfl (by decide) (sK51 H1) rfl (by exact Nat.le_of_ble_eq_true rfl) (t_Lw_sag (d + 1) H1 hs1 P1 A1 dj em ⟨by omega, by omega⟩) (fun r173 h173 q173 => ?_)
    obtain ⟨rfl, f1, f2⟩ := q173
    have H2 := f1.St H1
    have P2 := f1.Sp P1
    have A2 := f1.La A1
    have hs2 := f1.rr hs1
    have b1 : h'.2.1 a 4 = L.2.2.2.2.1 := by rw [e1.2 a (by omega)]; exact r5
    have g1 : fC (fun b => b = a + 1) h h173 := e1.tr f1
    have l3 : ∀ m, m < 10 → h173.2.1 (a + 1) m = (sagN L.2.2.2.2.1 (S.1.1 - 1) (moveF S.1.1 ft L.1)) m := fun m hm => by rw [f2 m hm, b1]; exact sagN_cg e2 (by omega) m hm
    generalize hl : (sagN L.2.2.2.2.1 (S.1.1 - 1) (moveF S.1.1 ft L.1)) = l' at l3 hQ
    have n5 : h173.2.1 a 5 = nI nn := by rw [g1.2 a (by omega), r6]; exact hN
    refine je_aload1 (pc := 176) d8002_176 rfl ?_
    refine je_aload1 (pc := 177) d8002_177 rfl ?_
    refine ju_geti (pc := 178) d8002_178 jF_8_32 rfl A2.1 ?_
    refine ju_eqi (v := nI nn) n5 ?_
    refine je_iconst (pc := 181) (v := 1) d8002_181 rfl ?_
    refine je_iadd (pc := 182) d8002_182 ?_
    refine ju_eqi (v := nI ((nn) + 1)) (nI_add (nn) 1) ?_
    refine je_sipush (pc := 183) (v := 999) d8002_183 rfl ?_
    refine je_mmin (pc := 186) d8002_186 jLm_8_76 (by exact Nat.le_of_ble_eq_true rfl) ?_
    refine ju_eqi (v := nI (nn + 1)) (if_neg (nI_nlt (a := 999) (b := nn + 1) (by omega) (by decide))) ?_
    refine ju_puti (pc := 189) d8002_189 jF_8_32 rfl A2.1 ?_
    refine je_iload (pc := 192) d8002_192 rfl ?_
    refine je_aload0 (pc := 194) d8002_194 rfl ?_
    refine ju_getr (pc := 195) (b := s) d8002_195 jF_8_12 rfl (sK51 H2.wI) hs2 ?_
    refine je_aload1 (pc := 198) d8002_198 rfl ?_
    refine ju_callv (pc := 199) (as := [_]) d8002_199 jL_8_42 jM_St_sidesOf rfl (by decide) P2.wI.1.1 rfl (by exact Nat.le_of_ble_eq_true rfl) (t_St_sidesOf (d + 2) (S := S) (l := l') P2.wI A2.wI (hS.of (fun b h1 h2 => (wI_ne _ _ _ (by omega)).trans (g1.2 b (by omega)))) wS (fun m hm => by rw [wI_ne _ _ _ (by omega)]; exact l3 m hm)) (fun r199 h199 q199 => ?_)
    obtain ⟨rfl, e199⟩ := q199
    obtain rfl := e199.symm
    refine ju_callsN (pc := 202) (as := [_, _]) d8002_202 jL_8_82 jM_Db_changedSides rfl rfl (by exact Nat.le_of_ble_eq_true rfl) (t_Db_changedSides (d + 1) _ _) (fun r202 h202 q202 => ?_)
    obtain ⟨rfl, e202⟩ := q202
    obtain rfl := e202.symm
    refine ju_eqi (v := nI (crN S L.1 l' S.1.2.1)) (chI_ok S L.1 l' w8) ?_
    have z8 : crN S L.1 l' S.1.2.1 < 256 := Nat.lt_of_lt_of_le (crN_lt S L.1 l') (Nat.pow_le_pow_right (n := 2) (by decide) (show S.1.2.1 ≤ 8 by omega))
    refine ju_istore (pc := 205) (lv' := [some _, some _, some _, some _, some _, some _]) d8002_205 rfl rfl ?_
    refine je_aload1 (pc := 207) d8002_207 rfl ?_
    refine je_iload (pc := 208) d8002_208 rfl ?_
    refine ju_callv (pc := 210) (as := [_]) d8002_210 jL_8_85 jM_La_countCrossed rfl (by decide) A2.wI.1 rfl (by exact Nat.le_of_ble_eq_true rfl) (t_La_countCrossed (d + 2) A2.wI z8) (fun r210 h210 q210 => ?_)
    obtain ⟨rfl, f3, f4⟩ := q210
    refine je_iload (pc := 213) d8002_213 rfl ?_
    refine je_iret (pc := 215) d8002_215 rfl ?_
    have g2 : fC (fun b => a ≤ b ∧ b ≤ a + 4) h h210 := ((g1.mo (fun b hb => by omega)).wI (by omega)).tr (f3.mo (fun b hb => by omega))
    refine hQ _ g2 ⟨fun m hm => ?_, fun m hm => ?_, fun m hm => ?_, fun v hv => ?_, ?_, ?_⟩
    · rw [f3.2 (a + 1) (by omega), wI_ne _ _ _ (by omega)]; exact l3 m hm
    · rw [f3.2 (a + 2) (by omega), wI_ne _ _ _ (by omega), g1.2 (a + 2) (by omega)]; exact r2 m hm
    · rw [f3.2 (a + 3) (by omega), wI_ne _ _ _ (by omega), g1.2 (a + 3) (by omega)]; exact r3 m hm
    · rw [f4 v hv]
      refine Eq.trans ?_ (croF_ok w8 hv)
      unfold ccF
      rw [wI_ne _ _ _ (by omega), g1.2 (a + 4) (by omega), r4 v hv]
    · rw [f3.2 a (by omega), wI_at, jx_up_ne _ _ (by decide), g1.2 a (by omega)]; exact r5
    · rw [f3.2 a (by omega), wI_at, jx_up_self]
      show nI (nn + 1) = L.2.2.2.2.2 + 1
      rw [hN, nI_1]
def cRul (h : jx_H) : Option MR → Prop
  | none => h.2.2.2 51 1 = none
  | some r => ∃ f, f < 6 ∧ h.2.2.2 51 1 = some (125 + 6 * f) ∧ rR h.2.1 (125 + 6 * f) r ∧ wfR r ∧ ∀ j, j < r.1.2 → okC (r.2.1 j)
/-- what a night of the class rests on -/
def cLaw (h : jx_H) (S : MS) (R : Option MR) : Prop := ∃ s, h.2.2.2 51 0 = some s ∧ sA s ∧ jx_Sp h s ∧ rS h.2.1 s S ∧ cRul h R
set_option maxHeartbeats 8000000 in
theorem t_Lw_pass_n (d : Nat) {bc bs : Nat} {h : jx_H} {s a nn : Nat} {S : MS} {L : ML} (H : jx_St h) (hs : h.2.2.2 51 0 = some s) (P : jx_Sp h s) (A : jx_La h a) (dj : (s + 12 < a ∨ a + 4 < s) ∧ (a + 4 < 51 ∨ 66 < a) ∧ (s + 12 < 51 ∨ 66 < s)) (hS : rS h.2.1 s S) (wS : wfS S) (h0 : 0 < S.1.1) (hmi : S.1.1 ≤ 10) (ha : a + 4 < 125) (hsr : s + 12 < 125 ∨ 160 < s) (hL : rL h.2.1 a L) (hN : L.2.2.2.2.2 = nI nn) (hn : nn < 998) (x wm : Int32) (hw : wm = if x = -1 then warmF S L.2.2.2.2.2 else x) (hr : h.2.2.2 51 1 = none) : jx_Tr (d + 4) bc bs 8002 [.ref 51, .ref a, .int x] h (fun r' h' => r' = some (.int (nI (crN S L.1 (linF S none wm L) S.1.2.1))) ∧ fC (fun b => b = 65 ∨ a ≤ b ∧ b ≤ a + 4) h h' ∧ rL h'.2.1 a (nightF S none wm L)) := by
  refine jx_tr jM_Lw_pass rfl rfl (lv := [some (.ref 51), some (.ref a), some (.int x), none, none, none]) rfl ?_
  obtain ⟨r1, r2, r3, r4, r5, r6⟩ := id hL
  have w8 := wS.2.1
  refine je_iload2 (pc := 0) d8002_0 rfl ?_
  refine je_iconst (pc := 1) (v := -1) d8002_1 rfl ?_
  refine ju_tern2 (pc := 2) (V := wm) 20 ?_ (fun jn2 => ?_)
  · refine ju_istore3 (pc := 20) (lv' := [some _, some _, some _, some _, none, none]) d8002_20 rfl rfl ?_
    refine je_aload0 (pc := 21) d8002_21 rfl ?_
    refine ju_getr (pc := 22) (b := s) d8002_22 jF_8_12 rfl (sK51 H) hs ?_
    refine je_aload1 (pc := 25) d8002_25 rfl ?_
    refine ju_callv (pc := 26) (as := [_]) d8002_26 jL_8_42 jM_St_sidesOf rfl (by decide) P.1.1 rfl (by exact Nat.le_of_ble_eq_true rfl) (t_St_sidesOf (d + 2) (S := S) (l := L.1) P A hS wS r1) (fun r26 h26 q26 => ?_)
    obtain ⟨rfl, e26⟩ := q26
    obtain rfl := e26.symm
    refine ju_istore (pc := 29) (lv' := [some _, some _, some _, some _, some _, none]) d8002_29 rfl rfl ?_
    refine je_aload0 (pc := 31) d8002_31 rfl ?_
    refine je_aload1 (pc := 32) d8002_32 rfl ?_
    refine je_iload3 (pc := 33) d8002_33 rfl ?_
    refine ju_callv (pc := 34) (as := [_, _]) d8002_34 jL_8_46 jM_Lw_rise rfl (by decide) (sK51 H) rfl (by exact Nat.le_of_ble_eq_true rfl) (t_Lw_rise (d + 1) H hs P A dj hS.1.1 hmi _) (fun r34 h34 q34 => ?_)
    obtain ⟨rfl, f1, f2⟩ := q34
    have H0 := f1.St H
    have P0 := f1.Sp P
    have A0 := f1.La A
    have hs0 := f1.rr hs
    have hr0 := f1.rr hr
    have hS0 : rS h34.2.1 s S := hS.of (fun b h1 h2 => f1.2 b (by omega))
    have hL0 : rL h34.2.1 a (risL S wm L) := by
      refine ⟨fun m hm => ?_, fun m hm => ?_, fun m hm => ?_, fun v hv => ?_, ?_, ?_⟩
      · rw [f1.2 (a + 1) (by omega)]; exact r1 m hm
      · rw [f2 m hm, r5]; show riseF _ _ _ _ m = riseF _ _ _ _ m; unfold riseF; rw [r2 m hm]
      · rw [f1.2 (a + 3) (by omega)]; exact r3 m hm
      · rw [f1.2 (a + 4) (by omega)]; exact r4 v hv
      · rw [f1.2 a (by omega)]; exact r5
      · rw [f1.2 a (by omega)]; exact r6
    refine je_iconst (pc := 37) (v := 0) d8002_37 rfl ?_
    refine ju_istore (pc := 38) (lv' := [some _, some _, some _, some _, some _, some _]) d8002_38 rfl rfl ?_
    refine je_loop (σ := Unit) (S.1.1) (fun k xx => [some (.ref 51), some (.ref a), some (.int x), some (.int wm), some (.int (nI (sidN S L.1 S.1.2.1))), some (.int (nI k))]) (fun k _ h' => fC (fun b => b = 65) h34 h' ∧ ∀ m, m < k → h'.2.1 65 m = feetF S none (risL S wm L) wm m) (fun k xx h' hk e kk => ?_) (fun xx h' e => ?_) (0) () h34 (by omega) ⟨fC.rf, fun m hm => absurd hm (Nat.not_lt_zero m)⟩
    · obtain ⟨e1, e2⟩ := e
      have H1 := e1.St H0
      have P1 := e1.Sp P0
      have A1 := e1.La A0
      have hs1 := e1.rr hs0
      have hr1 := e1.rr hr0
      have hS1 : rS h'.2.1 s S := hS0.of (fun b h1 h2 => e1.2 b (by omega))
      have hL1 : rL h'.2.1 a (risL S wm L) := hL0.of (fun b h1 h2 => e1.2 b (by omega))
      have em := hS1.1.1
      have b5 : h'.2.1 a 4 = L.2.2.2.2.1 := hL1.2.2.2.2.1
      refine je_iload (pc := 40) d8002_40 rfl ?_
      refine je_aload0 (pc := 42) d8002_42 rfl ?_
      refine ju_getr (pc := 43) (b := s) d8002_43 jF_8_12 rfl (sK51 H1) hs1 ?_
      refine ju_geti (pc := 46) d8002_46 jF_8_50 rfl P1.1.1 ?_
      refine ju_eqi (v := nI S.1.1) em ?_
      refine jn_icge (pc := 49) (a := (k)) (b := (S.1.1)) 137 d8002_49 (by decide) (by omega) (by omega) (fun c49 => by exfalso; omega) (fun c49 => ?_)
      refine je_aload1 (pc := 52) d8002_52 rfl ?_
      refine je_iload (pc := 53) d8002_53 rfl ?_
      refine ju_callv (pc := 55) (as := [_]) d8002_55 jL_8_53 jM_La_isBaked rfl (by decide) A1.1 rfl (by exact Nat.le_of_ble_eq_true rfl) (t_La_isBaked (d + 2) A1 _) (fun r55 h55 q55 => ?_)
      obtain ⟨rfl, e55⟩ := q55
      obtain rfl := e55.symm
      refine jb_ifeq (pc := 58) 72 d8002_58 (by decide) (fun c58 => ?_) (fun c58 => ?_)
      · refine je_aload0 (pc := 72) d8002_72 rfl ?_
        refine ju_getn (pc := 73) d8002_73 jF_8_28 rfl (sK51 H1) hr1 ?_
        refine je_nonnullN (pc := 76) d8002_76 ?_
        refine je_aload0 (pc := 79) d8002_79 rfl ?_
        refine ju_getr (pc := 80) (b := 65) d8002_80 jF_8_18 rfl (sK51 H1) (sR51_2 H1) ?_
        refine je_iload (pc := 83) d8002_83 rfl ?_
        refine je_aload0 (pc := 85) d8002_85 rfl ?_
        refine je_aload1 (pc := 86) d8002_86 rfl ?_
        refine je_iload (pc := 87) d8002_87 rfl ?_
        refine ju_callv (pc := 89) (as := [_, _]) d8002_89 jL_8_57 jM_Lw_feetWithoutRule rfl (by decide) (sK51 H1) rfl (by exact Nat.le_of_ble_eq_true rfl) (t_Lw_feetWithoutRule (d + 1) H1 hs1 P1 A1 (by omega)) (fun r89 h89 q89 => ?_)
        obtain ⟨rfl, e89⟩ := q89
        obtain rfl := e89.symm
        refine ju_eqi (v := crpF S none (risL S wm L) wm k) (by rw [hL1.2.1 k (by omega), hL1.2.2.1 k (by omega), hS1.1.2.1]; rfl) ?_
        refine ju_iast (pc := 92) (jn := (k)) d8002_92 (sK65 H1) (vp_in_nI (by omega) (by decide)) (nI_clamp (by omega)) ?_
        refine je_goto (pc := 93) 131 d8002_93 (by decide) ?_
        refine ju_incN (pc := 131) (v := nI ((k) + 1)) (lv' := [some _, some _, some _, some _, some _, some _]) d8002_131 rfl (nI_1 (k)) rfl ?_
        refine je_goto (pc := 134) 40 d8002_134 (by decide) ?_
        refine kk () _ ⟨e1.wI rfl, fun m hm => ?_⟩
        rw [wI_at]
        by_cases c : m = k
        · subst c
          rw [jx_up_self]
          unfold feetF
          rw [if_neg (show ¬ bkd (risL S wm L).2.2.2.2.1 (nI m) from by rw [b5] at c58; exact c58)]
        · rw [jx_up_ne _ _ c]
          exact e2 m (by omega)
      · refine je_aload0 (pc := 61) d8002_61 rfl ?_
        refine ju_getr (pc := 62) (b := 65) d8002_62 jF_8_18 rfl (sK51 H1) (sR51_2 H1) ?_
        refine je_iload (pc := 65) d8002_65 rfl ?_
        refine je_iconst (pc := 67) (v := 0) d8002_67 rfl ?_
        refine ju_iast (pc := 68) (jn := (k)) d8002_68 (sK65 H1) (vp_in_nI (by omega) (by decide)) (nI_clamp (by omega)) ?_
        refine je_goto (pc := 69) 131 d8002_69 (by decide) ?_
        refine ju_incN (pc := 131) (v := nI ((k) + 1)) (lv' := [some _, some _, some _, some _, some _, some _]) d8002_131 rfl (nI_1 (k)) rfl ?_
        refine je_goto (pc := 134) 40 d8002_134 (by decide) ?_
        refine kk () _ ⟨e1.wI rfl, fun m hm => ?_⟩
        rw [wI_at]
        by_cases c : m = k
        · subst c
          rw [jx_up_self]
          unfold feetF
          rw [if_pos (show bkd (risL S wm L).2.2.2.2.1 (nI m) from by rw [b5] at c58; exact c58)]
        · rw [jx_up_ne _ _ c]
          exact e2 m (by omega)
    · obtain ⟨e1, e2⟩ := e
      have H1 := e1.St H0
      have P1 := e1.Sp P0
      have A1 := e1.La A0
      have hs1 := e1.rr hs0
      have hr1 := e1.rr hr0
      have hS1 : rS h'.2.1 s S := hS0.of (fun b h1 h2 => e1.2 b (by omega))
      have hL1 : rL h'.2.1 a (risL S wm L) := hL0.of (fun b h1 h2 => e1.2 b (by omega))
      have em := hS1.1.1
      refine je_iload (pc := 40) d8002_40 rfl ?_
      refine je_aload0 (pc := 42) d8002_42 rfl ?_
      refine ju_getr (pc := 43) (b := s) d8002_43 jF_8_12 rfl (sK51 H1) hs1 ?_
      refine ju_geti (pc := 46) d8002_46 jF_8_50 rfl P1.1.1 ?_
      refine ju_eqi (v := nI S.1.1) em ?_
      refine jn_icge (pc := 49) (a := ((S.1.1))) (b := (S.1.1)) 137 d8002_49 (by decide) (by omega) (by omega) (fun c49 => ?_) (fun c49 => by exfalso; omega)
      exact lw_tail (L := (risL S wm L)) (ft := feetF S none (risL S wm L) wm) H1 hs1 P1 A1 dj hS1 wS h0 hmi hL1 e2 hN hn _ _ _ (fun h' g l => ⟨rfl, ((f1.mo (fun b hb => by omega)).tr (e1.mo (fun b hb => by omega))).tr (g.mo (fun b hb => by omega)), l⟩)
  · refine je_icne (pc := 2) 19 d8002_2 (by decide) (fun c2 => ?_) (fun c2 => ?_)
    · refine je_iload2 (pc := 19) d8002_19 rfl ?_
      refine ju_eqi (v := wm) (by rw [hw, if_neg c2]) ?_
      exact jn2
    · refine je_aload0 (pc := 5) d8002_5 rfl ?_
      refine ju_getr (pc := 6) (b := s) d8002_6 jF_8_12 rfl (sK51 H) hs ?_
      refine je_aload1 (pc := 9) d8002_9 rfl ?_
      refine ju_geti (pc := 10) d8002_10 jF_8_32 rfl A.1 ?_
      refine ju_eqi (v := L.2.2.2.2.2) r6 ?_
      refine ju_callv (pc := 13) (as := [_]) d8002_13 jL_8_38 jM_St_warmthOf rfl (by decide) P.1.1 rfl (by exact Nat.le_of_ble_eq_true rfl) (t_St_warmthOf (d + 2) P _) (fun r13 h13 q13 => ?_)
      obtain ⟨rfl, e13⟩ := q13
      obtain rfl := e13.symm
      refine je_goto (pc := 16) 20 d8002_16 (by decide) ?_
      refine ju_eqi (v := wm) (by rw [hw, if_pos c2]; exact warm_ok hS _) ?_
      exact jn2
set_option maxHeartbeats 8000000 in
theorem t_Lw_pass_r (d : Nat) {bc bs : Nat} {h : jx_H} {s a nn : Nat} {S : MS} {L : ML} (H : jx_St h) (hs : h.2.2.2 51 0 = some s) (P : jx_Sp h s) (A : jx_La h a) (dj : (s + 12 < a ∨ a + 4 < s) ∧ (a + 4 < 51 ∨ 66 < a) ∧ (s + 12 < 51 ∨ 66 < s)) (hS : rS h.2.1 s S) (wS : wfS S) (h0 : 0 < S.1.1) (hmi : S.1.1 ≤ 10) (ha : a + 4 < 125) (hsr : s + 12 < 125 ∨ 160 < s) (hL : rL h.2.1 a L) (hN : L.2.2.2.2.2 = nI nn) (hn : nn < 998) (x wm : Int32) (hw : wm = if x = -1 then warmF S L.2.2.2.2.2 else x) {ra : Nat} {r : MR} (hr : h.2.2.2 51 1 = some ra) (hra : 125 ≤ ra ∧ ra + 5 ≤ 160) (R : jx_Rl h ra) (hR : rR h.2.1 ra r) (wf : wfR r) (ho : ∀ j, j < r.1.2 → okC (r.2.1 j)) : jx_Tr (d + 4) bc bs 8002 [.ref 51, .ref a, .int x] h (fun r' h' => r' = some (.int (nI (crN S L.1 (linF S (some r) wm L) S.1.2.1))) ∧ fC (fun b => b = 65 ∨ a ≤ b ∧ b ≤ a + 4) h h' ∧ rL h'.2.1 a (nightF S (some r) wm L)) := by
  refine jx_tr jM_Lw_pass rfl rfl (lv := [some (.ref 51), some (.ref a), some (.int x), none, none, none]) rfl ?_
  obtain ⟨r1, r2, r3, r4, r5, r6⟩ := id hL
  have w8 := wS.2.1
  refine je_iload2 (pc := 0) d8002_0 rfl ?_
  refine je_iconst (pc := 1) (v := -1) d8002_1 rfl ?_
  refine ju_tern2 (pc := 2) (V := wm) 20 ?_ (fun jn2 => ?_)
  · refine ju_istore3 (pc := 20) (lv' := [some _, some _, some _, some _, none, none]) d8002_20 rfl rfl ?_
    refine je_aload0 (pc := 21) d8002_21 rfl ?_
    refine ju_getr (pc := 22) (b := s) d8002_22 jF_8_12 rfl (sK51 H) hs ?_
    refine je_aload1 (pc := 25) d8002_25 rfl ?_
    refine ju_callv (pc := 26) (as := [_]) d8002_26 jL_8_42 jM_St_sidesOf rfl (by decide) P.1.1 rfl (by exact Nat.le_of_ble_eq_true rfl) (t_St_sidesOf (d + 2) (S := S) (l := L.1) P A hS wS r1) (fun r26 h26 q26 => ?_)
    obtain ⟨rfl, e26⟩ := q26
    obtain rfl := e26.symm
    refine ju_istore (pc := 29) (lv' := [some _, some _, some _, some _, some _, none]) d8002_29 rfl rfl ?_
    refine je_aload0 (pc := 31) d8002_31 rfl ?_
    refine je_aload1 (pc := 32) d8002_32 rfl ?_
    refine je_iload3 (pc := 33) d8002_33 rfl ?_
    refine ju_callv (pc := 34) (as := [_, _]) d8002_34 jL_8_46 jM_Lw_rise rfl (by decide) (sK51 H) rfl (by exact Nat.le_of_ble_eq_true rfl) (t_Lw_rise (d + 1) H hs P A dj hS.1.1 hmi _) (fun r34 h34 q34 => ?_)
    obtain ⟨rfl, f1, f2⟩ := q34
    have H0 := f1.St H
    have P0 := f1.Sp P
    have A0 := f1.La A
    have hs0 := f1.rr hs
    have hr0 := f1.rr hr
    have R0 := f1.Rl R
    have hR0 : rR h34.2.1 ra r := hR.of (fun b h1 h2 => f1.2 b (by omega))
    have hS0 : rS h34.2.1 s S := hS.of (fun b h1 h2 => f1.2 b (by omega))
    have hL0 : rL h34.2.1 a (risL S wm L) := by
      refine ⟨fun m hm => ?_, fun m hm => ?_, fun m hm => ?_, fun v hv => ?_, ?_, ?_⟩
      · rw [f1.2 (a + 1) (by omega)]; exact r1 m hm
      · rw [f2 m hm, r5]; show riseF _ _ _ _ m = riseF _ _ _ _ m; unfold riseF; rw [r2 m hm]
      · rw [f1.2 (a + 3) (by omega)]; exact r3 m hm
      · rw [f1.2 (a + 4) (by omega)]; exact r4 v hv
      · rw [f1.2 a (by omega)]; exact r5
      · rw [f1.2 a (by omega)]; exact r6
    refine je_iconst (pc := 37) (v := 0) d8002_37 rfl ?_
    refine ju_istore (pc := 38) (lv' := [some _, some _, some _, some _, some _, some _]) d8002_38 rfl rfl ?_
    refine je_loop (σ := Unit) (S.1.1) (fun k xx => [some (.ref 51), some (.ref a), some (.int x), some (.int wm), some (.int (nI (sidN S L.1 S.1.2.1))), some (.int (nI k))]) (fun k _ h' => fC (fun b => b = 65) h34 h' ∧ ∀ m, m < k → h'.2.1 65 m = feetF S (some r) (risL S wm L) wm m) (fun k xx h' hk e kk => ?_) (fun xx h' e => ?_) (0) () h34 (by omega) ⟨fC.rf, fun m hm => absurd hm (Nat.not_lt_zero m)⟩
    · obtain ⟨e1, e2⟩ := e
      have H1 := e1.St H0
      have P1 := e1.Sp P0
      have A1 := e1.La A0
      have hs1 := e1.rr hs0
      have hr1 := e1.rr hr0
      have hS1 : rS h'.2.1 s S := hS0.of (fun b h1 h2 => e1.2 b (by omega))
      have hL1 : rL h'.2.1 a (risL S wm L) := hL0.of (fun b h1 h2 => e1.2 b (by omega))
      have em := hS1.1.1
      have R1 := e1.Rl R0
      have hR1 : rR h'.2.1 ra r := hR0.of (fun b h1 h2 => e1.2 b (by omega))
      have b5 : h'.2.1 a 4 = L.2.2.2.2.1 := hL1.2.2.2.2.1
      refine je_iload (pc := 40) d8002_40 rfl ?_
      refine je_aload0 (pc := 42) d8002_42 rfl ?_
      refine ju_getr (pc := 43) (b := s) d8002_43 jF_8_12 rfl (sK51 H1) hs1 ?_
      refine ju_geti (pc := 46) d8002_46 jF_8_50 rfl P1.1.1 ?_
      refine ju_eqi (v := nI S.1.1) em ?_
      refine jn_icge (pc := 49) (a := (k)) (b := (S.1.1)) 137 d8002_49 (by decide) (by omega) (by omega) (fun c49 => by exfalso; omega) (fun c49 => ?_)
      refine je_aload1 (pc := 52) d8002_52 rfl ?_
      refine je_iload (pc := 53) d8002_53 rfl ?_
      refine ju_callv (pc := 55) (as := [_]) d8002_55 jL_8_53 jM_La_isBaked rfl (by decide) A1.1 rfl (by exact Nat.le_of_ble_eq_true rfl) (t_La_isBaked (d + 2) A1 _) (fun r55 h55 q55 => ?_)
      obtain ⟨rfl, e55⟩ := q55
      obtain rfl := e55.symm
      refine jb_ifeq (pc := 58) 72 d8002_58 (by decide) (fun c58 => ?_) (fun c58 => ?_)
      · refine je_aload0 (pc := 72) d8002_72 rfl ?_
        refine ju_getr (pc := 73) (b := ra) d8002_73 jF_8_28 rfl (sK51 H1) hr1 ?_
        refine je_nonnull (pc := 76) 96 d8002_76 (by decide) ?_
        refine je_aload0 (pc := 96) d8002_96 rfl ?_
        refine ju_getr (pc := 97) (b := 66) d8002_97 jF_8_24 rfl (sK51 H1) (sR51_3 H1) ?_
        refine je_iconst (pc := 100) (v := 5) d8002_100 rfl ?_
        refine je_iload3 (pc := 101) d8002_101 rfl ?_
        refine je_i2l (pc := 102) d8002_102 ?_
        refine ju_last (pc := 103) (jn := 5) d8002_103 (sK66 H1) (by first | assumption | exact jx_ok_dec (by decide)) (by decide) ?_
        refine je_aload0 (pc := 104) d8002_104 rfl ?_
        refine je_aload1 (pc := 105) d8002_105 rfl ?_
        refine je_iload (pc := 106) d8002_106 rfl ?_
        refine je_iload (pc := 108) d8002_108 rfl ?_
        refine ju_callv (pc := 110) (as := [_, _, _]) d8002_110 jL_8_61 jM_Lw_tellWords rfl (by decide) (sK51 H1.wL) rfl (by exact Nat.le_of_ble_eq_true rfl) (t_Lw_tellWords (d + 1) (S := S) (L := (risL S wm L)) H1.wL hs1 P1.wL A1.wL dj hS1 wS hL1 hk hmi) (fun r110 h110 q110 => ?_)
        obtain ⟨rfl, f3, f4, f5⟩ := q110
        have H3 := f3.St H1.wL
        have A3 := f3.La A1.wL
        have P3 := f3.Sp P1.wL
        have hs3 := f3.rr hs1
        have hr3 := f3.rr hr1
        have R3 := f3.Rl R1.wL
        have hR3 : rR h110.2.1 ra r := hR1.of (fun b h1 h2 => f3.2 b (fun z => z))
        refine je_aload0 (pc := 113) d8002_113 rfl ?_
        refine ju_getr (pc := 114) (b := 65) d8002_114 jF_8_18 rfl (sK51 H3) (sR51_2 H3) ?_
        refine je_iload (pc := 117) d8002_117 rfl ?_
        refine je_aload0 (pc := 119) d8002_119 rfl ?_
        refine ju_getr (pc := 120) (b := ra) d8002_120 jF_8_28 rfl (sK51 H3) hr3 ?_
        refine je_aload0 (pc := 123) d8002_123 rfl ?_
        refine ju_getr (pc := 124) (b := 66) d8002_124 jF_8_24 rfl (sK51 H3) (sR51_3 H3) ?_
        refine ju_callv (pc := 127) (as := [_]) d8002_127 jL_8_65 jM_Ru_feet rfl (by decide) R3.1 rfl (by exact Nat.le_of_ble_eq_true rfl) (t_Ru_feet d (ra := ra) (wa := 66) (r := r) R3 (sK66 H3) (by omega) hR3 wf ho) (fun r127 h127 q127 => ?_)
        obtain ⟨rfl, f6, f7⟩ := q127
        have H4 := f6.St H3
        refine ju_eqi (v := crpF S (some r) (risL S wm L) wm k) (by show hold3 _ = hold3 _; rw [crL_cg (fun j hj => f5 wm rfl j hj) wf ho (by omega)]) ?_
        refine ju_iast (pc := 130) (jn := (k)) d8002_130 (sK65 H4) (vp_in_nI (by omega) (by decide)) (nI_clamp (by omega)) ?_
        refine ju_incN (pc := 131) (v := nI ((k) + 1)) (lv' := [some _, some _, some _, some _, some _, some _]) d8002_131 rfl (nI_1 (k)) rfl ?_
        refine je_goto (pc := 134) 40 d8002_134 (by decide) ?_
        refine kk () _ ⟨(e1.wL.tr ((f3.tr f6).mo (fun _ z => z.elim))).wI rfl, fun m hm => ?_⟩
        rw [wI_at]
        by_cases c : m = k
        · subst c
          rw [jx_up_self]
          unfold feetF
          rw [if_neg (show ¬ bkd (risL S wm L).2.2.2.2.1 (nI m) from by rw [b5] at c58; exact c58)]
        · rw [jx_up_ne _ _ c, f6.2 65 (fun z => z), f3.2 65 (fun z => z)]
          exact e2 m (by omega)
      · refine je_aload0 (pc := 61) d8002_61 rfl ?_
        refine ju_getr (pc := 62) (b := 65) d8002_62 jF_8_18 rfl (sK51 H1) (sR51_2 H1) ?_
        refine je_iload (pc := 65) d8002_65 rfl ?_
        refine je_iconst (pc := 67) (v := 0) d8002_67 rfl ?_
        refine ju_iast (pc := 68) (jn := (k)) d8002_68 (sK65 H1) (vp_in_nI (by omega) (by decide)) (nI_clamp (by omega)) ?_
        refine je_goto (pc := 69) 131 d8002_69 (by decide) ?_
        refine ju_incN (pc := 131) (v := nI ((k) + 1)) (lv' := [some _, some _, some _, some _, some _, some _]) d8002_131 rfl (nI_1 (k)) rfl ?_
        refine je_goto (pc := 134) 40 d8002_134 (by decide) ?_
        refine kk () _ ⟨e1.wI rfl, fun m hm => ?_⟩
        rw [wI_at]
        by_cases c : m = k
        · subst c
          rw [jx_up_self]
          unfold feetF
          rw [if_pos (show bkd (risL S wm L).2.2.2.2.1 (nI m) from by rw [b5] at c58; exact c58)]
        · rw [jx_up_ne _ _ c]
          exact e2 m (by omega)
    · obtain ⟨e1, e2⟩ := e
      have H1 := e1.St H0
      have P1 := e1.Sp P0
      have A1 := e1.La A0
      have hs1 := e1.rr hs0
      have hr1 := e1.rr hr0
      have hS1 : rS h'.2.1 s S := hS0.of (fun b h1 h2 => e1.2 b (by omega))
      have hL1 : rL h'.2.1 a (risL S wm L) := hL0.of (fun b h1 h2 => e1.2 b (by omega))
      have em := hS1.1.1
      have R1 := e1.Rl R0
      have hR1 : rR h'.2.1 ra r := hR0.of (fun b h1 h2 => e1.2 b (by omega))
      refine je_iload (pc := 40) d8002_40 rfl ?_
      refine je_aload0 (pc := 42) d8002_42 rfl ?_
      refine ju_getr (pc := 43) (b := s) d8002_43 jF_8_12 rfl (sK51 H1) hs1 ?_
      refine ju_geti (pc := 46) d8002_46 jF_8_50 rfl P1.1.1 ?_
      refine ju_eqi (v := nI S.1.1) em ?_
      refine jn_icge (pc := 49) (a := ((S.1.1))) (b := (S.1.1)) 137 d8002_49 (by decide) (by omega) (by omega) (fun c49 => ?_) (fun c49 => by exfalso; omega)
      exact lw_tail (L := (risL S wm L)) (ft := feetF S (some r) (risL S wm L) wm) H1 hs1 P1 A1 dj hS1 wS h0 hmi hL1 e2 hN hn _ _ _ (fun h' g l => ⟨rfl, ((f1.mo (fun b hb => by omega)).tr (e1.mo (fun b hb => by omega))).tr (g.mo (fun b hb => by omega)), l⟩)
  · refine je_icne (pc := 2) 19 d8002_2 (by decide) (fun c2 => ?_) (fun c2 => ?_)
    · refine je_iload2 (pc := 19) d8002_19 rfl ?_
      refine ju_eqi (v := wm) (by rw [hw, if_neg c2]) ?_
      exact jn2
    · refine je_aload0 (pc := 5) d8002_5 rfl ?_
      refine ju_getr (pc := 6) (b := s) d8002_6 jF_8_12 rfl (sK51 H) hs ?_
      refine je_aload1 (pc := 9) d8002_9 rfl ?_
      refine ju_geti (pc := 10) d8002_10 jF_8_32 rfl A.1 ?_
      refine ju_eqi (v := L.2.2.2.2.2) r6 ?_
      refine ju_callv (pc := 13) (as := [_]) d8002_13 jL_8_38 jM_St_warmthOf rfl (by decide) P.1.1 rfl (by exact Nat.le_of_ble_eq_true rfl) (t_St_warmthOf (d + 2) P _) (fun r13 h13 q13 => ?_)
      obtain ⟨rfl, e13⟩ := q13
      obtain rfl := e13.symm
      refine je_goto (pc := 16) 20 d8002_16 (by decide) ?_
      refine ju_eqi (v := wm) (by rw [hw, if_pos c2]; exact warm_ok hS _) ?_
      exact jn2
theorem t_Lw_pass (d : Nat) {bc bs : Nat} {h : jx_H} {a nn : Nat} {S : MS} {R : Option MR} {L : ML} (H : jx_St h) (C : cLaw h S R) (wS : wfS S) (h0 : 0 < S.1.1) (ha : lA a) (hL : rL h.2.1 a L) (hN : L.2.2.2.2.2 = nI nn) (hn : nn < 998) (x wm : Int32) (hw : wm = if x = -1 then warmF S L.2.2.2.2.2 else x) : jx_Tr (d + 4) bc bs 8002 [.ref 51, .ref a, .int x] h (fun r' h' => r' = some (.int (nI (crN S L.1 (linF S R wm L) S.1.2.1))) ∧ fC (fun b => b = 65 ∨ a ≤ b ∧ b ≤ a + 4) h h' ∧ rL h'.2.1 a (nightF S R wm L)) := by
  obtain ⟨s, c1, c2, c3, c4, c5⟩ := C
  have hmi : S.1.1 ≤ 10 := by rcases wS.1 with z | z <;> omega
  have a1 : a + 4 < 125 := by unfold lA at ha; omega
  have a2 : s + 12 < 125 ∨ 160 < s := by unfold sA at c2; omega
  match R, c5 with
  | none, c5 => exact t_Lw_pass_n d H c1 c3 (lA_La H ha) (lA_dj ha c2) c4 wS h0 hmi a1 a2 hL hN hn x wm hw c5
  | some r, ⟨f, f1, f2, f3, f4, f5⟩ => exact t_Lw_pass_r d H c1 c3 (lA_La H ha) (lA_dj ha c2) c4 wS h0 hmi a1 a2 hL hN hn x wm hw f2 (by omega) (r_Rl H f1) f3 f4 f5
