/-! The invariant at the begin. -/
def ml0 : ML := (fun _ => 0, fun _ => 0, fun _ => 0, fun _ => 0, 0, 0)
def mw0 : MW := (((0, 0, 0, 0), (fun _ => 0, fun _ => 0, fun _ => 0, fun _ => 0, fun _ => 0, fun _ => 0), ml0), ml0, (-1, 0), (0, fun _ => 0, fun _ => 0, fun _ => 0), (0, fun _ => ml0))
theorem bd0 {lo hi : Int} (h1 : lo ≤ 0) (h2 : 0 ≤ hi) : bdI 0 lo hi := ⟨by rw [Int32.toInt_zero]; exact h1, by rw [Int32.toInt_zero]; exact h2⟩
theorem wfL0 (n : Nat) : wfL n 0 0 ml0 := ⟨fun m _ => ⟨bd0 (by decide) (by decide), bd0 (by decide) (by decide), bd0 (by decide) (by decide)⟩, fun v _ => ⟨bd0 (by decide) (by omega), fun _ => rfl⟩, ⟨0, by decide, rfl⟩, 0, by omega, rfl⟩
theorem wfW0 : wfW 0 0 mw0 := by
  refine ⟨⟨Or.inl ⟨rfl, rfl, rfl⟩, by decide, by decide, bd0 (by decide) (by decide), fun j _ => bd0 (by decide) (by decide), fun v hv => absurd hv (Nat.not_lt_zero v), fun v hv => absurd hv (Nat.not_lt_zero v), wfL0 0⟩, wfL0 0, Or.inl rfl, bd0 (by decide) (by decide), ⟨by decide, fun v hv => absurd hv (Nat.not_lt_zero v)⟩, by decide, fun v hv => absurd hv (Nat.not_lt_zero v)⟩
set_option maxRecDepth 100000 in
set_option maxHeartbeats 8000000 in
theorem Inv0 (L : Nat) (xs : Nat → Int32) : Inv 0 (jl_h0 L xs) := by
  have H := jl_St0 L xs
  refine ⟨0, 0, fun _ => ((0, 0), fun _ => 0, fun _ => 0, fun _ => 0, fun _ => 0), mw0, fun _ => mw0, H, ⟨by rw [jl_S0]; exact Nat.le_of_ble_eq_true rfl, rfl⟩, ⟨by decide, rfl, rfl, fun v hv => absurd hv (Nat.not_lt_zero v)⟩, ⟨by decide, rfl, rfl, fun v hv => absurd hv (Nat.not_lt_zero v)⟩, ?_, ?_, wfW0, fun h => absurd h (Nat.not_lt_zero 0), fun k hk => Or.inl ?_⟩
  · refine ⟨⟨27, rfl, Or.inl rfl, ?_, ⟨rfl, rfl, rfl, rfl⟩, fun _ _ => rfl, fun v hv => absurd hv (Nat.not_lt_zero v), fun _ _ => rfl, fun v hv => absurd hv (Nat.not_lt_zero v), fun _ _ => rfl, fun _ _ => rfl, fun _ _ => rfl, fun _ _ => rfl, rfl, rfl⟩, ⟨fun _ _ => rfl, fun _ _ => rfl, fun _ _ => rfl, fun _ _ => rfl, rfl, rfl⟩, ⟨rfl, rfl⟩, ⟨rfl, fun v hv => absurd hv (Nat.not_lt_zero v)⟩, ⟨0, by decide, rfl, rfl, fun v hv => absurd hv (Nat.not_lt_zero v)⟩⟩
    exact ⟨⟨sK27 H, ⟨sK28 H, sR27_4 H⟩, ⟨sK29 H, sR27_5 H⟩, ⟨sK30 H, sR27_6 H⟩, ⟨sK31 H, sR27_7 H⟩, ⟨sK32 H, sR27_8 H⟩, ⟨sK33 H, sR27_9 H⟩, ⟨sK34 H, sR27_10 H⟩, ⟨sK35 H, sR27_11 H⟩⟩, sK35 H, ⟨sK36 H, sR35_0 H⟩, ⟨sK37 H, sR35_1 H⟩, ⟨sK38 H, sR35_2 H⟩, ⟨sK39 H, sR35_3 H⟩⟩
  · exact ⟨⟨⟨rfl, rfl, rfl, rfl⟩, fun _ _ => rfl, fun v hv => absurd hv (Nat.not_lt_zero v), fun v hv => absurd hv (Nat.not_lt_zero v), fun _ _ => rfl, rfl⟩, ⟨fun _ _ => ⟨rfl, rfl, rfl⟩, fun _ _ => rfl, rfl, rfl⟩, ⟨rfl, rfl⟩, ⟨rfl, fun v hv => absurd hv (Nat.not_lt_zero v)⟩, rfl, fun v hv => absurd hv (Nat.not_lt_zero v)⟩
  · exact ⟨rfl, rfl⟩
