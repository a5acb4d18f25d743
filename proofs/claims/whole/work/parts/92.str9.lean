/-! a new strip -/
/-- a new strip at the heap's end -/
def nwS (h : jx_H) (a : Nat) : jx_H := mk_St_init (jx_nw h a (.inr (.inl 3))) a
theorem q_wI (h : jx_H) (a k : Nat) (v : Option Nat) : (jx_wR h a k v).2.1 = h.2.1 := rfl
theorem q_nI (h : jx_H) {n b : Nat} (k : jx_K) (hb : b ≠ n) : (jx_nw h n k).2.1 b = h.2.1 b := jx_row_ne _ _ hb
theorem q_nn (h : jx_H) (n : Nat) (k : jx_K) : (jx_nw h n k).2.1 n = fun _ => 0 := jx_row_self _ _ _
theorem q_nR (h : jx_H) {n b : Nat} (k : jx_K) (hb : b ≠ n) : (jx_nw h n k).2.2.2 b = h.2.2.2 b := jx_row_ne _ _ hb
theorem nw_I {h : jx_H} {a b : Nat} (hb : b < a ∨ a + 12 < b) : (nwS h a).2.1 b = h.2.1 b := by
  unfold nwS mk_St_init mk_La_init
  repeat (first | rw [q_wI] | rw [q_nI _ _ (by omega)])
theorem nw_Z {h : jx_H} {a b : Nat} (h1 : a ≤ b) (h2 : b ≤ a + 12) : (nwS h a).2.1 b = fun _ => 0 := by
  obtain ⟨i, rfl⟩ := Nat.exists_eq_add_of_le h1
  have hi : i ≤ 12 := by omega
  unfold nwS mk_St_init mk_La_init
  match i, hi with
  | 0, _ =>
    repeat (first | rw [q_wI] | rw [q_nI _ _ (by omega)])
    exact q_nn h a _
  | 1, _ =>
    show _ = fun _ => 0
    rw [show a + 1 = a + 1 from rfl]
    repeat (first | rw [q_wI] | rw [q_nI _ _ (by omega)])
    rw [q_nn]
  | 2, _ =>
    show _ = fun _ => 0
    rw [show a + 2 = a + 2 from rfl]
    repeat (first | rw [q_wI] | rw [q_nI _ _ (by omega)])
    rw [q_nn]
  | 3, _ =>
    show _ = fun _ => 0
    rw [show a + 3 = a + 3 from rfl]
    repeat (first | rw [q_wI] | rw [q_nI _ _ (by omega)])
    rw [q_nn]
  | 4, _ =>
    show _ = fun _ => 0
    rw [show a + 4 = a + 4 from rfl]
    repeat (first | rw [q_wI] | rw [q_nI _ _ (by omega)])
    rw [q_nn]
  | 5, _ =>
    show _ = fun _ => 0
    rw [show a + 5 = a + 5 from rfl]
    repeat (first | rw [q_wI] | rw [q_nI _ _ (by omega)])
    rw [q_nn]
  | 6, _ =>
    show _ = fun _ => 0
    rw [show a + 6 = a + 6 from rfl]
    repeat (first | rw [q_wI] | rw [q_nI _ _ (by omega)])
    rw [q_nn]
  | 7, _ =>
    show _ = fun _ => 0
    rw [show a + 7 = a + 7 from rfl]
    repeat (first | rw [q_wI] | rw [q_nI _ _ (by omega)])
    rw [q_nn]
  | 8, _ =>
    show _ = fun _ => 0
    rw [show a + 8 = a + 8 from rfl]
    repeat (first | rw [q_wI] | rw [q_nI _ _ (by omega)])
    rw [q_nn]
  | 9, _ =>
    show _ = fun _ => 0
    rw [show a + 9 = a + 8 + 1 from rfl]
    repeat (first | rw [q_wI] | rw [q_nI _ _ (by omega)])
    rw [q_nn]
  | 10, _ =>
    show _ = fun _ => 0
    rw [show a + 10 = a + 8 + 2 from rfl]
    repeat (first | rw [q_wI] | rw [q_nI _ _ (by omega)])
    rw [q_nn]
  | 11, _ =>
    show _ = fun _ => 0
    rw [show a + 11 = a + 8 + 3 from rfl]
    repeat (first | rw [q_wI] | rw [q_nI _ _ (by omega)])
    rw [q_nn]
  | 12, _ =>
    show _ = fun _ => 0
    rw [show a + 12 = a + 8 + 4 from rfl]
    repeat (first | rw [q_wI] | rw [q_nI _ _ (by omega)])
    rw [q_nn]
  | k + 13, hi => exact absurd hi (by omega)
theorem nw_R {h : jx_H} {a b : Nat} (hb : b < a) : (nwS h a).2.2.2 b = h.2.2.2 b := by
  unfold nwS mk_St_init mk_La_init
  repeat (first | rw [wR_ne _ _ _ (by omega)] | rw [q_nR _ _ (by omega)])
theorem nw_S (h : jx_H) (a : Nat) : (nwS h a).1 = h.1 ++ [.inr (.inl 3), .inl (1, 100), .inl (1, 8), .inl (1, 8), .inl (1, 8), .inl (1, 10), .inl (1, 8), .inl (1, 8), .inr (.inl 4), .inl (1, 10), .inl (1, 10), .inl (1, 10), .inl (1, 8)] := by
  unfold nwS
  rw [mk_St_init_S]
  simp [jx_nw]
theorem nw_len {h : jx_H} {a : Nat} (hn : h.1.length = a) : (nwS h a).1.length = a + 13 := by rw [nw_S, List.length_append, hn]; rfl
theorem nw_at {h : jx_H} {a b : Nat} {k : jx_K} (hb : h.1[b]? = some k) : (nwS h a).1[b]? = some k := by rw [nw_S, List.getElem?_append_left (List.getElem?_eq_some_iff.mp hb).1]; exact hb
theorem nw_k {h : jx_H} {a : Nat} (hn : h.1.length = a) (i : Nat) : (nwS h a).1[a + i]? = ([.inr (.inl 3), .inl (1, 100), .inl (1, 8), .inl (1, 8), .inl (1, 8), .inl (1, 10), .inl (1, 8), .inl (1, 8), .inr (.inl 4), .inl (1, 10), .inl (1, 10), .inl (1, 10), .inl (1, 8)] : List jx_K)[i]? := by
  rw [nw_S, List.getElem?_append_right (by omega), hn, Nat.add_sub_cancel_left]
theorem nw_a4 (h : jx_H) (a : Nat) : (nwS h a).2.2.2 a 4 = some (a + 1) := by
  unfold nwS mk_St_init mk_La_init
  repeat (first | rw [wR_ne _ _ _ (by omega)] | rw [q_nR _ _ (by omega)] | rw [wR_at, jx_up_ne _ _ (by decide)])
  rw [wR_at, jx_up_self]
theorem nw_a5 (h : jx_H) (a : Nat) : (nwS h a).2.2.2 a 5 = some (a + 2) := by
  unfold nwS mk_St_init mk_La_init
  repeat (first | rw [wR_ne _ _ _ (by omega)] | rw [q_nR _ _ (by omega)] | rw [wR_at, jx_up_ne _ _ (by decide)])
  rw [wR_at, jx_up_self]
theorem nw_a6 (h : jx_H) (a : Nat) : (nwS h a).2.2.2 a 6 = some (a + 3) := by
  unfold nwS mk_St_init mk_La_init
  repeat (first | rw [wR_ne _ _ _ (by omega)] | rw [q_nR _ _ (by omega)] | rw [wR_at, jx_up_ne _ _ (by decide)])
  rw [wR_at, jx_up_self]
theorem nw_a7 (h : jx_H) (a : Nat) : (nwS h a).2.2.2 a 7 = some (a + 4) := by
  unfold nwS mk_St_init mk_La_init
  repeat (first | rw [wR_ne _ _ _ (by omega)] | rw [q_nR _ _ (by omega)] | rw [wR_at, jx_up_ne _ _ (by decide)])
  rw [wR_at, jx_up_self]
theorem nw_a8 (h : jx_H) (a : Nat) : (nwS h a).2.2.2 a 8 = some (a + 5) := by
  unfold nwS mk_St_init mk_La_init
  repeat (first | rw [wR_ne _ _ _ (by omega)] | rw [q_nR _ _ (by omega)] | rw [wR_at, jx_up_ne _ _ (by decide)])
  rw [wR_at, jx_up_self]
theorem nw_a9 (h : jx_H) (a : Nat) : (nwS h a).2.2.2 a 9 = some (a + 6) := by
  unfold nwS mk_St_init mk_La_init
  repeat (first | rw [wR_ne _ _ _ (by omega)] | rw [q_nR _ _ (by omega)] | rw [wR_at, jx_up_ne _ _ (by decide)])
  rw [wR_at, jx_up_self]
theorem nw_a10 (h : jx_H) (a : Nat) : (nwS h a).2.2.2 a 10 = some (a + 7) := by
  unfold nwS mk_St_init mk_La_init
  repeat (first | rw [wR_ne _ _ _ (by omega)] | rw [q_nR _ _ (by omega)] | rw [wR_at, jx_up_ne _ _ (by decide)])
  rw [wR_at, jx_up_self]
theorem nw_a11 (h : jx_H) (a : Nat) : (nwS h a).2.2.2 a 11 = some (a + 8) := by
  unfold nwS mk_St_init mk_La_init
  repeat (first | rw [wR_ne _ _ _ (by omega)] | rw [q_nR _ _ (by omega)] | rw [wR_at, jx_up_ne _ _ (by decide)])
  rw [wR_at, jx_up_self]
theorem nw_l0 (h : jx_H) (a : Nat) : (nwS h a).2.2.2 (a + 8) 0 = some (a + 8 + 1) := by
  unfold nwS mk_St_init mk_La_init
  repeat (first | rw [wR_ne _ _ _ (by omega)] | rw [q_nR _ _ (by omega)] | rw [wR_at, jx_up_ne _ _ (by decide)])
  rw [wR_at, jx_up_self]
theorem nw_l1 (h : jx_H) (a : Nat) : (nwS h a).2.2.2 (a + 8) 1 = some (a + 8 + 2) := by
  unfold nwS mk_St_init mk_La_init
  repeat (first | rw [wR_ne _ _ _ (by omega)] | rw [q_nR _ _ (by omega)] | rw [wR_at, jx_up_ne _ _ (by decide)])
  rw [wR_at, jx_up_self]
theorem nw_l2 (h : jx_H) (a : Nat) : (nwS h a).2.2.2 (a + 8) 2 = some (a + 8 + 3) := by
  unfold nwS mk_St_init mk_La_init
  repeat (first | rw [wR_ne _ _ _ (by omega)] | rw [q_nR _ _ (by omega)] | rw [wR_at, jx_up_ne _ _ (by decide)])
  rw [wR_at, jx_up_self]
theorem nw_l3 (h : jx_H) (a : Nat) : (nwS h a).2.2.2 (a + 8) 3 = some (a + 8 + 4) := by
  unfold nwS mk_St_init mk_La_init
  repeat (first | rw [wR_ne _ _ _ (by omega)] | rw [q_nR _ _ (by omega)] | rw [wR_at, jx_up_ne _ _ (by decide)])
  rw [wR_at, jx_up_self]
theorem nw_Sp {h : jx_H} {a : Nat} (hn : h.1.length = a) : jx_Sp (nwS h a) a := by
  exact ⟨⟨nw_k hn 0, ⟨nw_k hn 1, nw_a4 h a⟩, ⟨nw_k hn 2, nw_a5 h a⟩, ⟨nw_k hn 3, nw_a6 h a⟩, ⟨nw_k hn 4, nw_a7 h a⟩, ⟨nw_k hn 5, nw_a8 h a⟩, ⟨nw_k hn 6, nw_a9 h a⟩, ⟨nw_k hn 7, nw_a10 h a⟩, ⟨nw_k hn 8, nw_a11 h a⟩⟩, nw_k hn 8, ⟨nw_k hn 9, nw_l0 h a⟩, ⟨nw_k hn 10, nw_l1 h a⟩, ⟨nw_k hn 11, nw_l2 h a⟩, ⟨nw_k hn 12, nw_l3 h a⟩⟩
set_option maxRecDepth 100000 in
theorem jl_rL : ∀ q ∈ jl_R, q.1 < 304 := by decide
theorem nw_St {h : jx_H} {a : Nat} (H : jx_St h) (ha : 304 ≤ a) : jx_St (nwS h a) := ⟨fun b k hb => nw_at (H.1 b k hb), fun q hq => by rw [nw_R (by have := jl_rL q hq; omega)]; exact H.2 q hq⟩
