/-! image, back -/
theorem sWn {h : jx_H} (H : jx_St h) : jx_Wo h 26 := ⟨⟨sK26 H, ⟨sK40 H, sR26_1 H⟩, ⟨sK45 H, sR26_5 H⟩, ⟨sK46 H, sR26_6 H⟩, ⟨sK47 H, sR26_7 H⟩, ⟨sK48 H, sR26_8 H⟩⟩, sK40 H, ⟨sK41 H, sR40_0 H⟩, ⟨sK42 H, sR40_1 H⟩, ⟨sK43 H, sR40_2 H⟩, ⟨sK44 H, sR40_3 H⟩⟩
theorem sWi {h : jx_H} (H : jx_St h) : ∀ {k : Nat}, k < 4 → jx_Wo h (161 + 23 * k)
  | 0, _ => ⟨⟨sK161 H, ⟨sK175 H, sR161_1 H⟩, ⟨sK180 H, sR161_5 H⟩, ⟨sK181 H, sR161_6 H⟩, ⟨sK182 H, sR161_7 H⟩, ⟨sK183 H, sR161_8 H⟩⟩, sK175 H, ⟨sK176 H, sR175_0 H⟩, ⟨sK177 H, sR175_1 H⟩, ⟨sK178 H, sR175_2 H⟩, ⟨sK179 H, sR175_3 H⟩⟩
  | 1, _ => ⟨⟨sK184 H, ⟨sK198 H, sR184_1 H⟩, ⟨sK203 H, sR184_5 H⟩, ⟨sK204 H, sR184_6 H⟩, ⟨sK205 H, sR184_7 H⟩, ⟨sK206 H, sR184_8 H⟩⟩, sK198 H, ⟨sK199 H, sR198_0 H⟩, ⟨sK200 H, sR198_1 H⟩, ⟨sK201 H, sR198_2 H⟩, ⟨sK202 H, sR198_3 H⟩⟩
  | 2, _ => ⟨⟨sK207 H, ⟨sK221 H, sR207_1 H⟩, ⟨sK226 H, sR207_5 H⟩, ⟨sK227 H, sR207_6 H⟩, ⟨sK228 H, sR207_7 H⟩, ⟨sK229 H, sR207_8 H⟩⟩, sK221 H, ⟨sK222 H, sR221_0 H⟩, ⟨sK223 H, sR221_1 H⟩, ⟨sK224 H, sR221_2 H⟩, ⟨sK225 H, sR221_3 H⟩⟩
  | 3, _ => ⟨⟨sK230 H, ⟨sK244 H, sR230_1 H⟩, ⟨sK249 H, sR230_5 H⟩, ⟨sK250 H, sR230_6 H⟩, ⟨sK251 H, sR230_7 H⟩, ⟨sK252 H, sR230_8 H⟩⟩, sK244 H, ⟨sK245 H, sR244_0 H⟩, ⟨sK246 H, sR244_1 H⟩, ⟨sK247 H, sR244_2 H⟩, ⟨sK248 H, sR244_3 H⟩⟩
  | n + 4, h => absurd h (by omega)
theorem r49 {h : jx_H} (H : jx_St h) : ∀ {f : Nat}, f < 4 → jx_rv (h.2.2.2 49 (nI f).toNatClampNeg) = .ref (161 + 23 * f)
  | 0, _ => by rw [nI_clamp (by omega), sR49_0 H]; rfl
  | 1, _ => by rw [nI_clamp (by omega), sR49_1 H]; rfl
  | 2, _ => by rw [nI_clamp (by omega), sR49_2 H]; rfl
  | 3, _ => by rw [nI_clamp (by omega), sR49_3 H]; rfl
  | n + 4, h => absurd h (by omega)
theorem jx_Wo.wR0 {h : jx_H} {a b : Nat} (H : jx_Wo h b) {v : Option Nat} (ne : b + 14 ≠ a) : jx_Wo (jx_wR h a 0 v) b := by
  unfold jx_Wo jx_Wo0 jx_La at H ⊢
  have e0 : (jx_wR h a 0 v).1 = h.1 := rfl
  rw [e0, wR_ne _ _ _ ne]
  by_cases c : b = a
  · subst c
    rw [wR_at, jx_up_ne _ _ (by decide), jx_up_ne _ _ (by decide), jx_up_ne _ _ (by decide), jx_up_ne _ _ (by decide), jx_up_ne _ _ (by decide)]
    exact H
  · rw [wR_ne _ _ _ c]
    exact H
theorem fC.Wo {A : Nat → Prop} {h h' : jx_H} {s : Nat} (q : fC A h h') (H : jx_Wo h s) : jx_Wo h' s := by
  unfold jx_Wo jx_Wo0 jx_La at H ⊢
  rw [q.1.1, q.1.2]
  exact H
theorem fC.wR {A : Nat → Prop} {h h' : jx_H} (q : fC A h h') {a k : Nat} {v : Option Nat} : fC A (jx_wR h a k v) (jx_wR h' a k v) := by
  refine ⟨⟨q.1.1, ?_⟩, q.2⟩
  show jx_row h'.2.2.2 a (jx_up (h'.2.2.2 a) k v) = jx_row h.2.2.2 a (jx_up (h.2.2.2 a) k v)
  rw [q.1.2]
/-- a world copied -/
def cpW (h h' : jx_H) (a b s : Nat) : Prop := fC (fun c => c = a ∨ a + 14 ≤ c ∧ c ≤ a + 22) (jx_wR h a 0 (some s)) h' ∧ (∀ L, rL h.2.1 (b + 14) L → rL h'.2.1 (a + 14) L) ∧ (h'.2.1 a 2 = h.2.1 b 2 ∧ h'.2.1 a 3 = h.2.1 b 3 ∧ h'.2.1 a 4 = h.2.1 b 4 ∧ h'.2.1 a 9 = h.2.1 b 9 ∧ h'.2.1 a 10 = h.2.1 b 10) ∧ (∀ j, j < 10 → h'.2.1 (a + 19) j = h.2.1 (b + 19) j ∧ h'.2.1 (a + 20) j = h.2.1 (b + 20) j ∧ h'.2.1 (a + 21) j = h.2.1 (b + 21) j) ∧ ∀ j, j < 800 → h'.2.1 (a + 22) j = h.2.1 (b + 22) j
set_option maxHeartbeats 2000000 in
theorem t_Wo_copyFrom (d : Nat) {bc bs : Nat} {h : jx_H} {a b s : Nat} (A : jx_Wo h a) (B : jx_Wo h b) (hr : h.2.2.2 b 0 = some s) (hne : a + 22 < b ∨ b + 22 < a) : jx_Tr (d + 3) bc bs 7006 [.ref a, .ref b] h (fun r h' => r = none ∧ cpW h h' a b s) := by
  refine jx_tr jM_Wo_copyFrom rfl rfl (lv := [some (.ref a), some (.ref b)]) rfl ?_
  refine je_aload0 (pc := 0) d7006_0 rfl ?_
  refine je_aload1 (pc := 1) d7006_1 rfl ?_
  refine ju_getr (pc := 2) (b := s) d7006_2 jF_7_12 rfl B.1.1 hr ?_
  refine ju_putr (pc := 5) d7006_5 jF_7_12 rfl rfl A.1.1 ?_
  refine je_aload0 (pc := 8) d7006_8 rfl ?_
  refine ju_getr (pc := 9) (b := (a + 14)) d7006_9 jF_7_21 rfl (A.wR0 (a := a) (v := some s) (by omega)).1.1 (A.wR0 (a := a) (v := some s) (by omega)).1.2.1.2 ?_
  refine je_aload1 (pc := 12) d7006_12 rfl ?_
  refine ju_getr (pc := 13) (b := (b + 14)) d7006_13 jF_7_21 rfl (B.wR0 (a := a) (v := some s) (by omega)).1.1 (B.wR0 (a := a) (v := some s) (by omega)).1.2.1.2 ?_
  refine ju_callv (pc := 16) (as := [_]) d7006_16 jL_7_42 jM_La_copyFrom rfl (by decide) (A.wR0 (a := a) (v := some s) (by omega)).1.2.1.1 rfl (by exact Nat.le_of_ble_eq_true rfl) (t_La_copyFrom d (A.wR0 (a := a) (v := some s) (by omega)).2 (B.wR0 (a := a) (v := some s) (by omega)).2 (by omega)) (fun r16 h16 q16 => ?_)
  obtain ⟨rfl, w1, w2⟩ := q16
  have A2 := w1.Wo (A.wR0 (a := a) (v := some s) (by omega))
  have B2 := w1.Wo (B.wR0 (a := a) (v := some s) (by omega))
  have v : ∀ c, ¬ (a + 14 ≤ c ∧ c ≤ a + 18) → h16.2.1 c = h.2.1 c := fun c hc => w1.2 c (by omega)
  refine je_aload0 (pc := 19) d7006_19 rfl ?_
  refine je_aload1 (pc := 20) d7006_20 rfl ?_
  refine ju_geti (pc := 21) d7006_21 jF_7_25 rfl B2.1.1 ?_
  refine ju_puti (pc := 24) d7006_24 jF_7_25 rfl A2.1.1 ?_
  refine je_aload0 (pc := 27) d7006_27 rfl ?_
  refine je_aload1 (pc := 28) d7006_28 rfl ?_
  refine ju_geti (pc := 29) d7006_29 jF_7_46 rfl B2.wI.1.1 ?_
  refine ju_puti (pc := 32) d7006_32 jF_7_46 rfl A2.wI.1.1 ?_
  refine je_aload0 (pc := 35) d7006_35 rfl ?_
  refine je_aload1 (pc := 36) d7006_36 rfl ?_
  refine ju_geti (pc := 37) d7006_37 jF_7_49 rfl B2.wI.wI.1.1 ?_
  refine ju_puti (pc := 40) d7006_40 jF_7_49 rfl A2.wI.wI.1.1 ?_
  refine je_aload1 (pc := 43) d7006_43 rfl ?_
  refine ju_getr (pc := 44) (b := (b + 19)) d7006_44 jF_7_29 rfl B2.wI.wI.wI.1.1 B2.wI.wI.wI.1.2.2.1.2 ?_
  refine je_iconst (pc := 47) (v := 0) d7006_47 rfl ?_
  refine je_aload0 (pc := 48) d7006_48 rfl ?_
  refine ju_getr (pc := 49) (b := (a + 19)) d7006_49 jF_7_29 rfl A2.wI.wI.wI.1.1 A2.wI.wI.wI.1.2.2.1.2 ?_
  refine je_iconst (pc := 52) (v := 0) d7006_52 rfl ?_
  refine je_bipush (pc := 53) (v := 10) d7006_53 rfl ?_
  refine ju_copy (pc := 55) (sp := 0) (dp := 0) (n := 10) d7006_55 jLac_7_52 B2.wI.wI.wI.1.2.2.1.1 A2.wI.wI.wI.1.2.2.1.1 (by omega) (by omega) (by omega) (by omega) (by omega) (by exact Nat.le_of_ble_eq_true rfl) ?_
  refine je_aload1 (pc := 58) d7006_58 rfl ?_
  refine ju_getr (pc := 59) (b := (b + 20)) d7006_59 jF_7_33 rfl B2.wI.wI.wI.cp.1.1 B2.wI.wI.wI.cp.1.2.2.2.1.2 ?_
  refine je_iconst (pc := 62) (v := 0) d7006_62 rfl ?_
  refine je_aload0 (pc := 63) d7006_63 rfl ?_
  refine ju_getr (pc := 64) (b := (a + 20)) d7006_64 jF_7_33 rfl A2.wI.wI.wI.cp.1.1 A2.wI.wI.wI.cp.1.2.2.2.1.2 ?_
  refine je_iconst (pc := 67) (v := 0) d7006_67 rfl ?_
  refine je_bipush (pc := 68) (v := 10) d7006_68 rfl ?_
  refine ju_copy (pc := 70) (sp := 0) (dp := 0) (n := 10) d7006_70 jLac_7_52 B2.wI.wI.wI.cp.1.2.2.2.1.1 A2.wI.wI.wI.cp.1.2.2.2.1.1 (by omega) (by omega) (by omega) (by omega) (by omega) (by exact Nat.le_of_ble_eq_true rfl) ?_
  refine je_aload1 (pc := 73) d7006_73 rfl ?_
  refine ju_getr (pc := 74) (b := (b + 21)) d7006_74 jF_7_36 rfl B2.wI.wI.wI.cp.cp.1.1 B2.wI.wI.wI.cp.cp.1.2.2.2.2.1.2 ?_
  refine je_iconst (pc := 77) (v := 0) d7006_77 rfl ?_
  refine je_aload0 (pc := 78) d7006_78 rfl ?_
  refine ju_getr (pc := 79) (b := (a + 21)) d7006_79 jF_7_36 rfl A2.wI.wI.wI.cp.cp.1.1 A2.wI.wI.wI.cp.cp.1.2.2.2.2.1.2 ?_
  refine je_iconst (pc := 82) (v := 0) d7006_82 rfl ?_
  refine je_bipush (pc := 83) (v := 10) d7006_83 rfl ?_
  refine ju_copy (pc := 85) (sp := 0) (dp := 0) (n := 10) d7006_85 jLac_7_52 B2.wI.wI.wI.cp.cp.1.2.2.2.2.1.1 A2.wI.wI.wI.cp.cp.1.2.2.2.2.1.1 (by omega) (by omega) (by omega) (by omega) (by omega) (by exact Nat.le_of_ble_eq_true rfl) ?_
  refine je_aload1 (pc := 88) d7006_88 rfl ?_
  refine ju_getr (pc := 89) (b := (b + 22)) d7006_89 jF_7_39 rfl B2.wI.wI.wI.cp.cp.cp.1.1 B2.wI.wI.wI.cp.cp.cp.1.2.2.2.2.2.2 ?_
  refine je_iconst (pc := 92) (v := 0) d7006_92 rfl ?_
  refine je_aload0 (pc := 93) d7006_93 rfl ?_
  refine ju_getr (pc := 94) (b := (a + 22)) d7006_94 jF_7_39 rfl A2.wI.wI.wI.cp.cp.cp.1.1 A2.wI.wI.wI.cp.cp.cp.1.2.2.2.2.2.2 ?_
  refine je_iconst (pc := 97) (v := 0) d7006_97 rfl ?_
  refine je_aload0 (pc := 98) d7006_98 rfl ?_
  refine ju_getr (pc := 99) (b := (a + 22)) d7006_99 jF_7_39 rfl A2.wI.wI.wI.cp.cp.cp.1.1 A2.wI.wI.wI.cp.cp.cp.1.2.2.2.2.2.2 ?_
  refine je_alen (pc := 102) d7006_102 A2.wI.wI.wI.cp.cp.cp.1.2.2.2.2.2.1 (by decide) ?_
  refine ju_copy (pc := 103) (sp := 0) (dp := 0) (n := 800) d7006_103 jLac_7_52 B2.wI.wI.wI.cp.cp.cp.1.2.2.2.2.2.1 A2.wI.wI.wI.cp.cp.cp.1.2.2.2.2.2.1 (by omega) (by omega) (by omega) (by omega) (by omega) (by exact Nat.le_of_ble_eq_true rfl) ?_
  refine je_aload0 (pc := 106) d7006_106 rfl ?_
  refine je_aload1 (pc := 107) d7006_107 rfl ?_
  refine ju_geti (pc := 108) d7006_108 jF_7_58 rfl B2.wI.wI.wI.cp.cp.cp.cp.1.1 ?_
  refine ju_puti (pc := 111) d7006_111 jF_7_58 rfl A2.wI.wI.wI.cp.cp.cp.cp.1.1 ?_
  refine je_aload0 (pc := 114) d7006_114 rfl ?_
  refine je_aload1 (pc := 115) d7006_115 rfl ?_
  refine ju_geti (pc := 116) d7006_116 jF_7_61 rfl B2.wI.wI.wI.cp.cp.cp.cp.wI.1.1 ?_
  refine ju_puti (pc := 119) d7006_119 jF_7_61 rfl A2.wI.wI.wI.cp.cp.cp.cp.wI.1.1 ?_
  refine je_ret (pc := 122) d7006_122 rfl ?_
  refine ⟨rfl, (((((((((w1.mo (fun c hc => by omega)).wI (Or.inl rfl)).wI (Or.inl rfl)).wI (Or.inl rfl)).cp (by omega)).cp (by omega)).cp (by omega)).cp (by omega)).wI (Or.inl rfl)).wI (Or.inl rfl), fun L hL => (w2 L hL).of (fun c h1 h2 => ?_), ?_, fun j hj => ?_, fun j hj => ?_⟩
  · rw [wI_ne _ _ _ (by omega), wI_ne _ _ _ (by omega), cpI_ne _ _ _ _ _ (by omega), cpI_ne _ _ _ _ _ (by omega), cpI_ne _ _ _ _ _ (by omega), cpI_ne _ _ _ _ _ (by omega), wI_ne _ _ _ (by omega), wI_ne _ _ _ (by omega), wI_ne _ _ _ (by omega)]
  · simp only [wI_at, cpI_at, wI_ne _ _ _ (show b ≠ a by omega), wI_ne _ _ _ (show a + 19 ≠ a by omega), wI_ne _ _ _ (show a + 20 ≠ a by omega), wI_ne _ _ _ (show a + 21 ≠ a by omega), wI_ne _ _ _ (show a + 22 ≠ a by omega), wI_ne _ _ _ (show b + 19 ≠ a by omega), wI_ne _ _ _ (show b + 20 ≠ a by omega), wI_ne _ _ _ (show b + 21 ≠ a by omega), wI_ne _ _ _ (show b + 22 ≠ a by omega), cpI_ne _ _ _ _ _ (show b ≠ a + 19 by omega), cpI_ne _ _ _ _ _ (show b ≠ a + 20 by omega), cpI_ne _ _ _ _ _ (show b ≠ a + 21 by omega), cpI_ne _ _ _ _ _ (show b ≠ a + 22 by omega), cpI_ne _ _ _ _ _ (show a ≠ a + 19 by omega), cpI_ne _ _ _ _ _ (show a ≠ a + 20 by omega), cpI_ne _ _ _ _ _ (show a ≠ a + 21 by omega), cpI_ne _ _ _ _ _ (show a ≠ a + 22 by omega), cpI_ne _ _ _ _ _ (show a + 19 ≠ a + 20 by omega), cpI_ne _ _ _ _ _ (show a + 19 ≠ a + 21 by omega), cpI_ne _ _ _ _ _ (show a + 19 ≠ a + 22 by omega), cpI_ne _ _ _ _ _ (show a + 20 ≠ a + 19 by omega), cpI_ne _ _ _ _ _ (show a + 20 ≠ a + 21 by omega), cpI_ne _ _ _ _ _ (show a + 20 ≠ a + 22 by omega), cpI_ne _ _ _ _ _ (show a + 21 ≠ a + 19 by omega), cpI_ne _ _ _ _ _ (show a + 21 ≠ a + 20 by omega), cpI_ne _ _ _ _ _ (show a + 21 ≠ a + 22 by omega), cpI_ne _ _ _ _ _ (show a + 22 ≠ a + 19 by omega), cpI_ne _ _ _ _ _ (show a + 22 ≠ a + 20 by omega), cpI_ne _ _ _ _ _ (show a + 22 ≠ a + 21 by omega), cpI_ne _ _ _ _ _ (show b + 19 ≠ a + 19 by omega), cpI_ne _ _ _ _ _ (show b + 19 ≠ a + 20 by omega), cpI_ne _ _ _ _ _ (show b + 19 ≠ a + 21 by omega), cpI_ne _ _ _ _ _ (show b + 19 ≠ a + 22 by omega), cpI_ne _ _ _ _ _ (show b + 20 ≠ a + 19 by omega), cpI_ne _ _ _ _ _ (show b + 20 ≠ a + 20 by omega), cpI_ne _ _ _ _ _ (show b + 20 ≠ a + 21 by omega), cpI_ne _ _ _ _ _ (show b + 20 ≠ a + 22 by omega), cpI_ne _ _ _ _ _ (show b + 21 ≠ a + 19 by omega), cpI_ne _ _ _ _ _ (show b + 21 ≠ a + 20 by omega), cpI_ne _ _ _ _ _ (show b + 21 ≠ a + 21 by omega), cpI_ne _ _ _ _ _ (show b + 21 ≠ a + 22 by omega), cpI_ne _ _ _ _ _ (show b + 22 ≠ a + 19 by omega), cpI_ne _ _ _ _ _ (show b + 22 ≠ a + 20 by omega), cpI_ne _ _ _ _ _ (show b + 22 ≠ a + 21 by omega), cpI_ne _ _ _ _ _ (show b + 22 ≠ a + 22 by omega)]
    refine ⟨?_, ?_, ?_, ?_, ?_⟩
    · rw [jx_up_ne _ _ (by decide), jx_up_ne _ _ (by decide), jx_up_ne _ _ (by decide), jx_up_ne _ _ (by decide), jx_up_self, v b (by omega)]
    · rw [jx_up_ne _ _ (by decide), jx_up_ne _ _ (by decide), jx_up_ne _ _ (by decide), jx_up_self, v b (by omega)]
    · rw [jx_up_ne _ _ (by decide), jx_up_ne _ _ (by decide), jx_up_self, v b (by omega)]
    · rw [jx_up_ne _ _ (by decide), jx_up_self, v b (by omega)]
    · rw [jx_up_self, v b (by omega)]
  · simp only [wI_at, cpI_at, wI_ne _ _ _ (show b ≠ a by omega), wI_ne _ _ _ (show a + 19 ≠ a by omega), wI_ne _ _ _ (show a + 20 ≠ a by omega), wI_ne _ _ _ (show a + 21 ≠ a by omega), wI_ne _ _ _ (show a + 22 ≠ a by omega), wI_ne _ _ _ (show b + 19 ≠ a by omega), wI_ne _ _ _ (show b + 20 ≠ a by omega), wI_ne _ _ _ (show b + 21 ≠ a by omega), wI_ne _ _ _ (show b + 22 ≠ a by omega), cpI_ne _ _ _ _ _ (show b ≠ a + 19 by omega), cpI_ne _ _ _ _ _ (show b ≠ a + 20 by omega), cpI_ne _ _ _ _ _ (show b ≠ a + 21 by omega), cpI_ne _ _ _ _ _ (show b ≠ a + 22 by omega), cpI_ne _ _ _ _ _ (show a ≠ a + 19 by omega), cpI_ne _ _ _ _ _ (show a ≠ a + 20 by omega), cpI_ne _ _ _ _ _ (show a ≠ a + 21 by omega), cpI_ne _ _ _ _ _ (show a ≠ a + 22 by omega), cpI_ne _ _ _ _ _ (show a + 19 ≠ a + 20 by omega), cpI_ne _ _ _ _ _ (show a + 19 ≠ a + 21 by omega), cpI_ne _ _ _ _ _ (show a + 19 ≠ a + 22 by omega), cpI_ne _ _ _ _ _ (show a + 20 ≠ a + 19 by omega), cpI_ne _ _ _ _ _ (show a + 20 ≠ a + 21 by omega), cpI_ne _ _ _ _ _ (show a + 20 ≠ a + 22 by omega), cpI_ne _ _ _ _ _ (show a + 21 ≠ a + 19 by omega), cpI_ne _ _ _ _ _ (show a + 21 ≠ a + 20 by omega), cpI_ne _ _ _ _ _ (show a + 21 ≠ a + 22 by omega), cpI_ne _ _ _ _ _ (show a + 22 ≠ a + 19 by omega), cpI_ne _ _ _ _ _ (show a + 22 ≠ a + 20 by omega), cpI_ne _ _ _ _ _ (show a + 22 ≠ a + 21 by omega), cpI_ne _ _ _ _ _ (show b + 19 ≠ a + 19 by omega), cpI_ne _ _ _ _ _ (show b + 19 ≠ a + 20 by omega), cpI_ne _ _ _ _ _ (show b + 19 ≠ a + 21 by omega), cpI_ne _ _ _ _ _ (show b + 19 ≠ a + 22 by omega), cpI_ne _ _ _ _ _ (show b + 20 ≠ a + 19 by omega), cpI_ne _ _ _ _ _ (show b + 20 ≠ a + 20 by omega), cpI_ne _ _ _ _ _ (show b + 20 ≠ a + 21 by omega), cpI_ne _ _ _ _ _ (show b + 20 ≠ a + 22 by omega), cpI_ne _ _ _ _ _ (show b + 21 ≠ a + 19 by omega), cpI_ne _ _ _ _ _ (show b + 21 ≠ a + 20 by omega), cpI_ne _ _ _ _ _ (show b + 21 ≠ a + 21 by omega), cpI_ne _ _ _ _ _ (show b + 21 ≠ a + 22 by omega), cpI_ne _ _ _ _ _ (show b + 22 ≠ a + 19 by omega), cpI_ne _ _ _ _ _ (show b + 22 ≠ a + 20 by omega), cpI_ne _ _ _ _ _ (show b + 22 ≠ a + 21 by omega), cpI_ne _ _ _ _ _ (show b + 22 ≠ a + 22 by omega)]
    rw [pk_cpy_in (by omega) (by omega), pk_cpy_in (by omega) (by omega), pk_cpy_in (by omega) (by omega), v _ (by omega), v _ (by omega), v _ (by omega), Nat.sub_zero, Nat.zero_add]
    exact ⟨rfl, rfl, rfl⟩
  · simp only [wI_at, cpI_at, wI_ne _ _ _ (show b ≠ a by omega), wI_ne _ _ _ (show a + 19 ≠ a by omega), wI_ne _ _ _ (show a + 20 ≠ a by omega), wI_ne _ _ _ (show a + 21 ≠ a by omega), wI_ne _ _ _ (show a + 22 ≠ a by omega), wI_ne _ _ _ (show b + 19 ≠ a by omega), wI_ne _ _ _ (show b + 20 ≠ a by omega), wI_ne _ _ _ (show b + 21 ≠ a by omega), wI_ne _ _ _ (show b + 22 ≠ a by omega), cpI_ne _ _ _ _ _ (show b ≠ a + 19 by omega), cpI_ne _ _ _ _ _ (show b ≠ a + 20 by omega), cpI_ne _ _ _ _ _ (show b ≠ a + 21 by omega), cpI_ne _ _ _ _ _ (show b ≠ a + 22 by omega), cpI_ne _ _ _ _ _ (show a ≠ a + 19 by omega), cpI_ne _ _ _ _ _ (show a ≠ a + 20 by omega), cpI_ne _ _ _ _ _ (show a ≠ a + 21 by omega), cpI_ne _ _ _ _ _ (show a ≠ a + 22 by omega), cpI_ne _ _ _ _ _ (show a + 19 ≠ a + 20 by omega), cpI_ne _ _ _ _ _ (show a + 19 ≠ a + 21 by omega), cpI_ne _ _ _ _ _ (show a + 19 ≠ a + 22 by omega), cpI_ne _ _ _ _ _ (show a + 20 ≠ a + 19 by omega), cpI_ne _ _ _ _ _ (show a + 20 ≠ a + 21 by omega), cpI_ne _ _ _ _ _ (show a + 20 ≠ a + 22 by omega), cpI_ne _ _ _ _ _ (show a + 21 ≠ a + 19 by omega), cpI_ne _ _ _ _ _ (show a + 21 ≠ a + 20 by omega), cpI_ne _ _ _ _ _ (show a + 21 ≠ a + 22 by omega), cpI_ne _ _ _ _ _ (show a + 22 ≠ a + 19 by omega), cpI_ne _ _ _ _ _ (show a + 22 ≠ a + 20 by omega), cpI_ne _ _ _ _ _ (show a + 22 ≠ a + 21 by omega), cpI_ne _ _ _ _ _ (show b + 19 ≠ a + 19 by omega), cpI_ne _ _ _ _ _ (show b + 19 ≠ a + 20 by omega), cpI_ne _ _ _ _ _ (show b + 19 ≠ a + 21 by omega), cpI_ne _ _ _ _ _ (show b + 19 ≠ a + 22 by omega), cpI_ne _ _ _ _ _ (show b + 20 ≠ a + 19 by omega), cpI_ne _ _ _ _ _ (show b + 20 ≠ a + 20 by omega), cpI_ne _ _ _ _ _ (show b + 20 ≠ a + 21 by omega), cpI_ne _ _ _ _ _ (show b + 20 ≠ a + 22 by omega), cpI_ne _ _ _ _ _ (show b + 21 ≠ a + 19 by omega), cpI_ne _ _ _ _ _ (show b + 21 ≠ a + 20 by omega), cpI_ne _ _ _ _ _ (show b + 21 ≠ a + 21 by omega), cpI_ne _ _ _ _ _ (show b + 21 ≠ a + 22 by omega), cpI_ne _ _ _ _ _ (show b + 22 ≠ a + 19 by omega), cpI_ne _ _ _ _ _ (show b + 22 ≠ a + 20 by omega), cpI_ne _ _ _ _ _ (show b + 22 ≠ a + 21 by omega), cpI_ne _ _ _ _ _ (show b + 22 ≠ a + 22 by omega)]
    rw [pk_cpy_in (by omega) (by omega), v _ (by omega), Nat.sub_zero, Nat.zero_add]
theorem cP.eq {r r' : Nat → Int32} {L : ML} (q : cP r L) (e : ∀ j, j < 40 → r' j = r j) : cP r' L := by
  obtain ⟨c1, c2, c3, c4⟩ := q
  refine ⟨fun m hm => ?_, fun v hv => ?_, ?_, ?_⟩
  · rw [e m (by omega), e (10 + m) (by omega), e (20 + m) (by omega)]; exact c1 m hm
  · rw [e (30 + v) (by omega)]; exact c2 v hv
  · rw [e 38 (by omega)]; exact c3
  · rw [e 39 (by omega)]; exact c4
theorem rW.cpy {h h' : jx_H} {a b s : Nat} {X : MW} (r : rW h b X) (hr : h.2.2.2 b 0 = some s) (c : cpW h h' a b s) (hA : ∀ c, c = a ∨ a + 14 ≤ c ∧ c ≤ a + 22 → ¬ sRow c) (hl : X.2.2.2.1.1 ≤ 10) : rW h' a X := by
  obtain ⟨⟨s', r1, r2, r3, r4⟩, r5, r6, r7, o, r8, r9, r10, r11⟩ := r
  have es : s' = s := Option.some.inj (r1.symm.trans hr)
  subst es
  obtain ⟨c1, c2, ⟨d1, d2, d3, d4, d5⟩, c4, c5⟩ := c
  refine ⟨⟨s', ?_, r2, c1.Sp (r3.rf rfl (fun b h1 h2 => wR_ne _ _ _ (fun e => hA _ (Or.inl rfl) (e ▸ sRow_of r2 h1 h2)))), r4.of (fun b h1 h2 => c1.2 b (fun z => hA b z (sRow_of r2 h1 h2)))⟩, c2 _ r5, ⟨d1.trans r6.1, d2.trans r6.2⟩, ⟨d3.trans r7.1, fun k hk => ?_⟩, o, r8, d4.trans r9, d5.trans r10, fun i hi => (r11 i hi).eq (fun j hj => c5 _ (by omega))⟩
  · rw [c1.1.2, wR_at, jx_up_self]
  · obtain ⟨z1, z2, z3⟩ := c4 k (by omega)
    rw [z1, z2, z3]
    exact r7.2 k hk
theorem mW.cg {g g' : Nat → Nat → Int32} {X : MW} {n nr : Nat} (w : wfW n nr X) (r : mW g X) (key : ∀ t, t < 18 → ∀ j, j < iN t → g' (iA t) j = g (iA t) j) : mW g' X := by
  obtain ⟨⟨r1, r2, r3, r4, r5, r6⟩, ⟨s1, s2, s3, s4⟩, ⟨f1, f2⟩, ⟨l1, l2⟩, p1, p2⟩ := r
  obtain ⟨⟨-, w1, w2, -⟩, -, -, -, ⟨w3, -⟩, w4, -⟩ := w
  have k0 : ∀ j, j < 9 → g' 254 j = g 254 j := key 0 (by decide)
  have k1 : ∀ j, j < 10 → g' 255 j = g 255 j := key 1 (by decide)
  have k2 : ∀ j, j < 10 → g' 256 j = g 256 j := key 2 (by decide)
  have k3 : ∀ j, j < 10 → g' 257 j = g 257 j := key 3 (by decide)
  have k4 : ∀ j, j < 8 → g' 262 j = g 262 j := key 4 (by decide)
  have k5 : ∀ j, j < 1 → g' 293 j = g 293 j := key 5 (by decide)
  have k6 : ∀ j, j < 100 → g' 258 j = g 258 j := key 6 (by decide)
  have k7 : ∀ j, j < 8 → g' 259 j = g 259 j := key 7 (by decide)
  have k8 : ∀ j, j < 8 → g' 260 j = g 260 j := key 8 (by decide)
  have k9 : ∀ j, j < 8 → g' 261 j = g 261 j := key 9 (by decide)
  have k10 : ∀ j, j < 8 → g' 263 j = g 263 j := key 10 (by decide)
  have k11 : ∀ j, j < 8 → g' 264 j = g 264 j := key 11 (by decide)
  have k12 : ∀ j, j < 10 → g' 265 j = g 265 j := key 12 (by decide)
  have k13 : ∀ j, j < 10 → g' 266 j = g 266 j := key 13 (by decide)
  have k14 : ∀ j, j < 10 → g' 267 j = g 267 j := key 14 (by decide)
  have k15 : ∀ j, j < 10 → g' 268 j = g 268 j := key 15 (by decide)
  have k16 : ∀ j, j < 1 → g' 269 j = g 269 j := key 16 (by decide)
  have k17 : ∀ j, j < 800 → g' 292 j = g 292 j := key 17 (by decide)
  refine ⟨⟨?_, fun j hj => ?_, fun v hv => ?_, fun v hv => ?_, fun m hm => ?_, ?_⟩, ⟨fun m hm => ?_, fun v hv => ?_, ?_, ?_⟩, ⟨?_, ?_⟩, ⟨?_, fun k0 hk0 => ?_⟩, ?_, fun i hi => (p2 i hi).eq (fun j hj => k17 _ (by omega))⟩
  · rw [k0 _ (by decide), k0 _ (by decide), k0 _ (by decide), k0 _ (by decide)]; exact r1
  · rw [k6 j hj]; exact r2 j hj
  · rw [k7 v (by omega), k8 v (by omega), k9 v (by omega)]; exact r3 v hv
  · rw [k10 v (by omega), k11 v (by omega)]; exact r4 v hv
  · rw [k15 m hm]; exact r5 m hm
  · rw [k16 _ (by decide)]; exact r6
  · rw [k1 m hm, k2 m hm, k3 m hm]; exact s1 m hm
  · rw [k4 v hv]; exact s2 v hv
  · rw [k0 _ (by decide)]; exact s3
  · rw [k0 _ (by decide)]; exact s4
  · rw [k0 _ (by decide)]; exact f1
  · rw [k0 _ (by decide)]; exact f2
  · rw [k0 _ (by decide)]; exact l1
  · rw [k12 k0 (by omega), k13 k0 (by omega), k14 k0 (by omega)]; exact l2 k0 hk0
  · rw [k5 _ (by decide)]; exact p1
theorem gI_at (h : jx_H) (k : Nat) {t : Nat} (ht : t < 18) (j : Nat) : gI h k (iA t) j = h.2.1 302 (1100 * k + iO t + j) := by unfold gI; rw [iA_g t ht]
set_option maxHeartbeats 2000000 in
theorem t_Db_image_n (d : Nat) {bc bs : Nat} {h : jx_H} (H : jx_St h) (x : Int32) (G : ¬ (¬ x < 0 ∧ x < 4)) : jx_Tr (d + 4) bc bs 40 [.ref 1, .int x] h (fun r h' => r = some (.int (-1)) ∧ h' = h) := by
  refine jx_tr jM_Db_image rfl rfl (lv := [some (.ref 1), some (.int x)]) rfl ?_
  refine je_iload1 (pc := 0) d40_0 rfl ?_
  refine je_iflt (pc := 1) 9 d40_1 (by decide) (fun c1 => ?_) (fun c1 => ?_)
  · refine je_iconst (pc := 9) (v := -1) d40_9 rfl ?_
    refine je_iret (pc := 10) d40_10 rfl ?_
    exact ⟨rfl, rfl⟩
  · refine je_iload1 (pc := 4) d40_4 rfl ?_
    refine je_iconst (pc := 5) (v := 4) d40_5 rfl ?_
    refine je_iclt (pc := 6) 11 d40_6 (by decide) (fun c6 => ?_) (fun c6 => ?_)
    · exact absurd ⟨c1, c6⟩ G
    · refine je_iconst (pc := 9) (v := -1) d40_9 rfl ?_
      refine je_iret (pc := 10) d40_10 rfl ?_
      exact ⟨rfl, rfl⟩
theorem rCi : ∀ {k : Nat}, k < 4 → rCell (161 + 23 * k) 0 = true
  | 0, _ => rfl
  | 1, _ => rfl
  | 2, _ => rfl
  | 3, _ => rfl
  | n + 4, h => absurd h (by omega)
set_option maxHeartbeats 2000000 in
theorem t_Db_image (d : Nat) {bc bs : Nat} {h : jx_H}  {s k : Nat} (H : jx_St h) (hr : h.2.2.2 26 0 = some s) (hk : k < 4) : jx_Tr (d + 4) bc bs 40 [.ref 1, .int (nI k)] h (fun r h' => r = some (.int (h.2.1 40 5)) ∧ ∃ h1, cpW h h1 (161 + 23 * k) 26 s ∧ h' = jx_wI h1 50 k 1) := by
  refine jx_tr jM_Db_image rfl rfl (lv := [some (.ref 1), some (.int (nI k))]) rfl ?_
  refine je_iload1 (pc := 0) d40_0 rfl ?_
  refine je_iflt (pc := 1) 9 d40_1 (by decide) (fun c1 => absurd c1 (nI_pos (by omega))) (fun c1 => ?_)
  refine je_iload1 (pc := 4) d40_4 rfl ?_
  refine je_iconst (pc := 5) (v := 4) d40_5 rfl ?_
  refine je_iclt (pc := 6) 11 d40_6 (by decide) (fun c6 => ?_) (fun c6 => absurd c6 (fun z => z (nI_lt (b := 4) hk (by decide))))
  refine je_aload0 (pc := 11) d40_11 rfl ?_
  refine ju_getr (pc := 12) (b := 49) d40_12 jF_0_45 rfl (sK1 H) (sR1_6 H) ?_
  refine je_iload1 (pc := 15) d40_15 rfl ?_
  refine je_aald (pc := 16) d40_16 (by decide) (sK49 H) (vp_in_nI (by omega) (by decide)) (v := .ref (161 + 23 * k)) (r49 H hk) ?_
  refine je_aload0 (pc := 17) d40_17 rfl ?_
  refine ju_getr (pc := 18) (b := 26) d40_18 jF_0_41 rfl (sK1 H) (sR1_5 H) ?_
  refine ju_callv (pc := 21) (as := [_]) d40_21 jL_0_321 jM_Wo_copyFrom rfl (by decide) (sWi H hk).1.1 rfl (by exact Nat.le_of_ble_eq_true rfl) (t_Wo_copyFrom d (a := 161 + 23 * k) (b := 26) (sWi H hk) (sWn H) hr (by omega)) (fun r21 h21 q21 => ?_)
  obtain ⟨rfl, w⟩ := q21
  have H2 := w.1.St (H.wR (v := some s) (rCi hk))
  refine je_aload0 (pc := 24) d40_24 rfl ?_
  refine ju_getr (pc := 25) (b := 50) d40_25 jF_0_49 rfl (sK1 H2) (sR1_7 H2) ?_
  refine je_iload1 (pc := 28) d40_28 rfl ?_
  refine je_iconst (pc := 29) (v := 1) d40_29 rfl ?_
  refine ju_zast (pc := 30) (jn := (k)) d40_30 (sK50 H2) (vp_in_nI (by omega) (by decide)) rfl (nI_clamp (by omega)) ?_
  refine je_aload0 (pc := 31) d40_31 rfl ?_
  refine ju_getr (pc := 32) (b := 26) d40_32 jF_0_41 rfl (sK1 H2.wI) (sR1_5 H2.wI) ?_
  refine ju_getr (pc := 35) (b := 40) d40_35 jF_0_124 rfl (sK26 H2.wI) (sR26_1 H2.wI) ?_
  refine ju_geti (pc := 38) d40_38 jF_0_177 rfl (sK40 H2.wI) ?_
  refine ju_eqi (v := h.2.1 40 5) (by rw [wI_ne _ _ _ (by decide), w.1.2 40 (by omega)]; rfl) ?_
  refine je_iret (pc := 41) d40_41 rfl ?_
  exact ⟨rfl, _, w, rfl⟩
theorem in_3 (x : Int32) : b2 ((0 : Int64) ≤ x.toInt64 ∧ x.toInt64 ≤ (3 : Int64)) = b2 (¬ x < 0 ∧ x < 4) := by
  refine b2_c ?_
  rw [show (0 : Int64) = (0 : Int32).toInt64 from rfl, show (3 : Int64) = (3 : Int32).toInt64 from rfl, fa_wide_le, fa_wide_le, fa_le, fa_le, fa_lt, fa_lt, show (3 : Int32).toInt = 3 from rfl, show (4 : Int32).toInt = 4 from rfl]
  omega
set_option maxHeartbeats 2000000 in
theorem t_Mo_image_n (d : Nat) {bc bs : Nat} {h : jx_H} (H : jx_St h) (x : Int32) (G : ¬ (¬ x < 0 ∧ x < 4)) : jx_Tr (d + 3) bc bs 12112 [.ref 253, .int x] h (fun r h' => r = some (.int (-1)) ∧ h' = h) := by
  refine jx_tr jM_Mo_image rfl rfl (lv := [some (.ref 253), some (.int x)]) rfl ?_
  refine je_iload1 (pc := 0) d12112_0 rfl ?_
  refine je_i2l (pc := 1) d12112_1 ?_
  refine je_lconst0 (pc := 2) d12112_2 ?_
  refine je_ldc2 (pc := 3) d12112_3 jK_12_468 ?_
  refine ju_calls (pc := 6) (as := [_, _, _]) d12112_6 jL_12_170 jM_Mo_in rfl rfl (by exact Nat.le_of_ble_eq_true rfl) (t_Mo_in (d + 1) _ _ _) (fun r6 h6 q6 => ?_)
  obtain ⟨rfl, e6⟩ := q6
  obtain rfl := e6.symm
  refine ju_eqi (v := b2 (¬ x < 0 ∧ x < 4)) (in_3 x) ?_
  refine je_ifne (pc := 9) 14 d12112_9 (by decide) (fun c9 => absurd c9 (fun z => G (b2_n z))) (fun c9 => ?_)
  refine je_iconst (pc := 12) (v := -1) d12112_12 rfl ?_
  refine je_iret (pc := 13) d12112_13 rfl ?_
  exact ⟨rfl, rfl⟩
set_option maxHeartbeats 2000000 in
theorem t_Mo_image (d : Nat) {bc bs : Nat} {h : jx_H} {k : Nat} (H : jx_St h) (hk : k < 4) : jx_Tr (d + 3) bc bs 12112 [.ref 253, .int (nI k)] h (fun r h' => r = some (.int (h.2.1 254 5)) ∧ cyF (jx_wI h 303 k 1) h' (1100 * k) 18) := by
  refine jx_tr jM_Mo_image rfl rfl (lv := [some (.ref 253), some (.int (nI k))]) rfl ?_
  refine je_iload1 (pc := 0) d12112_0 rfl ?_
  refine je_i2l (pc := 1) d12112_1 ?_
  refine je_lconst0 (pc := 2) d12112_2 ?_
  refine je_ldc2 (pc := 3) d12112_3 jK_12_468 ?_
  refine ju_calls (pc := 6) (as := [_, _, _]) d12112_6 jL_12_170 jM_Mo_in rfl rfl (by exact Nat.le_of_ble_eq_true rfl) (t_Mo_in (d + 1) _ _ _) (fun r6 h6 q6 => ?_)
  obtain ⟨rfl, e6⟩ := q6
  obtain rfl := e6.symm
  refine ju_eqi (v := b2 (¬ nI k < 0 ∧ nI k < 4)) (in_3 _) ?_
  refine je_ifne (pc := 9) 14 d12112_9 (by decide) (fun c9 => ?_) (fun c9 => absurd c9 (fun z => b2_0.mp z ⟨nI_pos (by omega), nI_lt (b := 4) hk (by decide)⟩))
  refine je_aload0 (pc := 14) d12112_14 rfl ?_
  refine ju_getr (pc := 15) (b := 303) d12112_15 jF_12_163 rfl (sK253 H) (sR253_65 H) ?_
  refine je_iload1 (pc := 18) d12112_18 rfl ?_
  refine je_iconst (pc := 19) (v := 1) d12112_19 rfl ?_
  refine ju_zast (pc := 20) (jn := (k)) d12112_20 (sK303 H) (vp_in_nI (by omega) (by decide)) rfl (nI_clamp (by omega)) ?_
  refine je_aload0 (pc := 21) d12112_21 rfl ?_
  refine je_iload1 (pc := 22) d12112_22 rfl ?_
  refine je_iconst (pc := 23) (v := 0) d12112_23 rfl ?_
  refine ju_callv (pc := 24) (as := [_, _]) d12112_24 jL_12_475 jM_Mo_carriesAll rfl (by decide) (sK253 H.wI) rfl (by exact Nat.le_of_ble_eq_true rfl) (t_Mo_carriesAll d (k := k) (q := 1100 * k) H.wI hk rfl) (fun r24 h24 q24 => ?_)
  obtain ⟨rfl, w⟩ := q24
  have H2 := w.1.St H.wI
  refine je_aload0 (pc := 27) d12112_27 rfl ?_
  refine ju_getr (pc := 28) (b := 254) d12112_28 jF_12_9 rfl (sK253 H2) (sR253_1 H2) ?_
  refine je_iconst (pc := 31) (v := 5) d12112_31 rfl ?_
  refine ju_iald (pc := 32) (jn := 5) d12112_32 (sK254 H2) (by first | assumption | exact jx_ok_dec (by decide)) (by decide) ?_
  refine ju_eqi (v := h.2.1 254 5) (by rw [w.1.2 254 (by decide), wI_ne _ _ _ (by decide)]) ?_
  refine je_iret (pc := 33) d12112_33 rfl ?_
  exact ⟨rfl, w⟩
theorem x4 {x : Int32} (h : ¬ x < 0 ∧ x < 4) : ∃ k, k < 4 ∧ x = nI k := by
  obtain ⟨k, hk, rfl⟩ := nI_of h.1
  exact ⟨k, (nI_ltI (b := 4) hk (by decide)).mp h.2, rfl⟩
theorem op_image (x : Int32) : jo Inv 40 12112 [.int x] := by
  intro n h hn q
  obtain ⟨t, nr, rs, X, Y, q⟩ := q
  by_cases G : ¬ x < 0 ∧ x < 4
  · obtain ⟨k, hk, rfl⟩ := x4 G
    obtain ⟨s, r1, r2, r3, r4, r5⟩ := q.cl
    refine (t_Db_image 195 q.1 r1 hk).mono (fun r h1 hq => ?_)
    obtain ⟨rfl, g1, c, rfl⟩ := hq
    have S0 := q.1.wR (v := some s) (rCi hk)
    have S1 := c.1.St S0
    have kc : ∀ b, ¬ (b = 161 + 23 * k ∨ 161 + 23 * k + 14 ≤ b ∧ b ≤ 161 + 23 * k + 22) → b ≠ 50 → (jx_wI g1 50 k 1).2.1 b = h.2.1 b := fun b h1 h2 => (wI_ne _ _ _ h2).trans (c.1.2 b h1)
    refine ⟨⟨kc 0 (by omega) (by decide), by show g1.1[0]? = _; rw [c.1.1.1]; rfl, sK253 S1.wI⟩, h.2.1 40 5, rfl, (t_Mo_image 196 S1.wI hk).mono (fun r' h2 hq2 => ?_)⟩
    obtain ⟨rfl, f⟩ := hq2
    obtain ⟨Q1, ⟨Q2, Q2'⟩, ⟨t1, t2, t3, t4⟩, ⟨u1, u2, u3, u4⟩, Q5, Q6, Q7, Q8, Q9⟩ := id q
    obtain ⟨f1, f2, f3, f4, f5, f6⟩ := id f
    have kr : h2.2.2.2 = (jx_wR h (161 + 23 * k) 0 (some s)).2.2.2 := f1.1.2.trans c.1.1.2
    have kk : h2.1 = h.1 := f1.1.1.trans c.1.1.1
    have ki : ∀ b, ¬ (b = 161 + 23 * k ∨ 161 + 23 * k + 14 ≤ b ∧ b ≤ 161 + 23 * k + 22) → b ≠ 50 → b ≠ 302 → b ≠ 253 → b ≠ 293 → b ≠ 303 → h2.2.1 b = h.2.1 b := fun b b1 b2 b3 b4 b5 b6 => by
      rw [f1.2 b (by omega), wI_ne _ _ _ b6]; exact kc b b1 b2
    have k3 : ∀ j, j ≠ 66 → j ≠ 67 → h2.2.1 253 j = h.2.1 253 j := fun j j1 j2 => by rw [f2 j j1 j2, wI_ne _ _ _ (by decide)]; exact congrFun (kc 253 (by omega) (by decide)) j
    have kS : ∀ s', sA s' → jx_Sp h s' → jx_Sp h2 s' := fun s' hs hp => hp.rf kk (fun b b1 b2 => by rw [kr]; exact wR_ne _ _ _ (fun e => by have := sRow_of hs b1 b2; unfold sRow at this; omega))
    have kW : ∀ {w : Nat} {Z : MW}, (w = 26 ∨ ∃ i, i < 4 ∧ i ≠ k ∧ w = 161 + 23 * i) → rW h w Z → rW h2 w Z := by
      intro w Z hw r
      refine r.of (fun b hb => ki b (by unfold sRow at hb; omega) (by unfold sRow at hb; omega) (by unfold sRow at hb; omega) (by unfold sRow at hb; omega) (by unfold sRow at hb; omega) (by unfold sRow at hb; omega)) kS (fun b b1 b2 => ?_) ?_
      · rcases hw with hw | ⟨i, hi, hne, hw⟩
        · exact ki b (by omega) (by omega) (by omega) (by omega) (by omega) (by omega)
        · exact ki b (by omega) (by omega) (by omega) (by omega) (by omega) (by omega)
      · rw [kr, wR_ne _ _ _ (by rcases hw with hw | ⟨i, hi, hne, hw⟩ <;> omega)]
    have gl : gN (jx_wI (jx_wI g1 50 k 1) 303 k 1) = gN h ∨ True := Or.inr trivial
    have gv : ∀ t, t < 18 → ∀ j, gN (jx_wI (jx_wI g1 50 k 1) 303 k 1) (iA t) j = gN h (iA t) j := fun t ht j => by
      have := iA_r t ht
      unfold gN
      rw [wI_ne _ _ _ (show 253 ≠ 303 by decide), wI_ne _ _ _ (show iA t ≠ 303 by omega), kc 253 (by omega) (by decide), kc (iA t) (by omega) (by omega)]
    have m302 : ∀ x, x < 1100 * k ∨ 1100 * k + 1029 ≤ x → h2.2.1 302 x = h.2.1 302 x := fun x hx => by
      rw [f6 x hx, wI_ne _ _ _ (show 302 ≠ 303 by decide), kc 302 (by omega) (by decide)]
    refine ⟨?_, by rw [kk]; show _ = g1.1[0]?; rw [c.1.1.1]; rfl, t, nr, rs, X, jx_up Y k X, f1.St S1.wI.wI, ⟨by rw [kk]; omega, by rw [k3 36 (by decide) (by decide)]; exact Q2'⟩, ⟨t1, by rw [ki 2 (by omega) (by omega) (by omega) (by omega) (by omega) (by omega)]; exact t2, by rw [k3 27 (by decide) (by decide)]; exact t3, by rw [ki 3 (by omega) (by omega) (by omega) (by omega) (by omega) (by omega), ki 280 (by omega) (by omega) (by omega) (by omega) (by omega) (by omega)]; exact t4⟩, ⟨u1, by rw [ki 1 (by omega) (by omega) (by omega) (by omega) (by omega) (by omega)]; exact u2, by rw [k3 31 (by decide) (by decide)]; exact u3, fun i hi => ?_⟩, kW (Or.inl rfl) Q5, ?_, Q7.up (Nat.le_succ n) (Nat.le_refl nr), ?_, fun i hi => ?_⟩
    · have e1 : h.2.1 40 5 = X.2.1.2.2.2.2.2 := r5.2.2.2.2.2
      have e2 : h.2.1 254 5 = X.2.1.2.2.2.2.2 := Q6.la.2.2.2
      rw [kc 254 (by omega) (by decide), e1, e2]
    · obtain ⟨v1, v2, v3⟩ := u4 i hi
      exact ⟨v1.of (fun b b1 b2 => ki b (by omega) (by omega) (by omega) (by omega) (by omega) (by omega)), v2.of (fun b b1 b2 => ki b (by omega) (by omega) (by omega) (by omega) (by omega) (by omega)), v3⟩
    · refine Q6.mk rfl (fun a ha => ki a (by omega) (by omega) (by omega) (by omega) (by omega) (by omega)) (fun j hj => congrFun (ki 254 (by omega) (by omega) (by omega) (by omega) (by omega) (by omega)) j) ?_ ?_ ?_ ?_
      · exact Q6.la.of (ki _ (by omega) (by omega) (by omega) (by omega) (by omega) (by omega)) (ki _ (by omega) (by omega) (by omega) (by omega) (by omega) (by omega)) (ki _ (by omega) (by omega) (by omega) (by omega) (by omega) (by omega)) (ki _ (by omega) (by omega) (by omega) (by omega) (by omega) (by omega)) (congrFun (ki 254 (by omega) (by omega) (by omega) (by omega) (by omega) (by omega)) 4) (congrFun (ki 254 (by omega) (by omega) (by omega) (by omega) (by omega) (by omega)) 5)
      · rw [ki 254 (by omega) (by omega) (by omega) (by omega) (by omega) (by omega)]; exact Q6.fx
      · rw [ki 254 (by omega) (by omega) (by omega) (by omega) (by omega) (by omega), ki 265 (by omega) (by omega) (by omega) (by omega) (by omega) (by omega), ki 266 (by omega) (by omega) (by omega) (by omega) (by omega) (by omega), ki 267 (by omega) (by omega) (by omega) (by omega) (by omega) (by omega)]; exact Q6.lg
      · rw [k3 51 (by decide) (by decide), ki 292 (by omega) (by omega) (by omega) (by omega) (by omega) (by omega)]; exact Q6.pa
    · intro hp
      obtain ⟨l1, l2, l3⟩ := Q8 hp
      rw [kr, wR_ne _ _ _ (show 51 ≠ 161 + 23 * k by omega), wR_ne _ _ _ (show 26 ≠ 161 + 23 * k by omega)]
      exact ⟨l1, l2, l3⟩
    · have e50 : h2.2.1 50 i = if i = k then 1 else h.2.1 50 i := by
        rw [f1.2 50 (by omega), wI_ne _ _ _ (by decide), wI_at, up_at, c.1.2 50 (by omega)]; rfl
      have e303 : h2.2.1 303 i = if i = k then 1 else h.2.1 303 i := by
        rw [f1.2 303 (by omega), wI_at, up_at, kc 303 (by omega) (by decide)]
      unfold imgOK
      rw [e50, e303]
      by_cases ci : i = k
      · subst ci
        rw [if_pos rfl, if_pos rfl, jx_up_self]
        refine Or.inr ⟨rfl, rfl, ?_, ?_, Q7.up (Nat.le_succ n) (Nat.le_refl nr)⟩
        · have z : rW g1 (161 + 23 * i) X := Q5.cpy r1 c (fun c hc => by unfold sRow; omega) Q7.2.2.2.2.1.1
          refine z.of (fun b hb => ?_) (fun s' hs hp => hp.eq (f1.1.1) (f1.1.2)) (fun b b1 b2 => ?_) (by rw [f1.1.2]; rfl)
          · rw [f1.2 b (by unfold sRow at hb; omega), wI_ne _ _ _ (by unfold sRow at hb; omega), wI_ne _ _ _ (by unfold sRow at hb; omega)]
          · rw [f1.2 b (by omega), wI_ne _ _ _ (by omega), wI_ne _ _ _ (by omega)]
        · exact Q6.cg Q7 (fun t ht j hj => by rw [gI_at _ _ ht, f5 t ht j hj]; exact gv t ht j)
      · rw [if_neg ci, if_neg ci, jx_up_ne _ _ ci]
        rcases Q9 i hi with z | ⟨z1, z2, z3, z4, z5⟩
        · exact Or.inl z
        · refine Or.inr ⟨z1, z2, kW (Or.inr ⟨i, hi, ci, rfl⟩) z3, z4.cg z5 (fun t ht j hj => ?_), z5.up (Nat.le_succ n) (Nat.le_refl nr)⟩
          have := iO_b t ht
          rw [gI_at _ _ ht, gI_at _ _ ht, m302 _ (by omega)]
  · refine (t_Db_image_n 195 q.1 x G).mono (fun r h1 hq => ?_)
    obtain ⟨rfl, rfl⟩ := hq
    refine ⟨⟨rfl, rfl, sK253 q.1⟩, -1, rfl, (t_Mo_image_n 196 q.1 x G).mono (fun r' h2 hq2 => ?_)⟩
    obtain ⟨rfl, rfl⟩ := hq2
    exact ⟨rfl, rfl, t, nr, rs, X, Y, q.up (Nat.le_succ n)⟩
