/-! ===== PURE, for the model's helpers ===== -/
theorem bv_prx_c {X : bv_X} {j q c5 : Nat} (hc : c5 ≤ 5) (ec : X 15 j = nI c5) : bv_px (fun i => X 16 (5 * j + i)) (fun i => X 17 (5 * j + i)) (fun i => X 18 (5 * j + i)) (nI q) (X 0 0) c5 = bv_prx X j q := by
  unfold bv_prx
  rw [ec, nI_clamp (show c5 < 2 ^ 31 by omega)]
theorem bv_up_id {X : bv_X} {r i : Nat} {v : Int32} (h : X r i = v) : bv_up X r i v = X := by
  apply bv_X_ext
  intro a b
  rw [bv_up_at]
  by_cases q : a = r ∧ b = i
  · obtain ⟨rfl, rfl⟩ := q
    rw [if_pos ⟨rfl, rfl⟩, h]
  · rw [if_neg q]
theorem bv_fr_8 (Y : bv_X) (b : Int32) (i : Nat) : bv_fr Y b i 8 i = Y 8 i := if_neg (by omega)
theorem bv_fr_a {Y : bv_X} {b : Int32} {i : Nat} (h : bv_fr Y b i 8 i = 0) : bv_up (bv_fr Y b i) 8 i 0 = bv_fr Y b (i + 1) := by
  by_cases q : Y 4 i = b
  · exact bv_fr_y q
  · rw [bv_up_id h]
    exact bv_fr_n q
theorem bv_fr_b {Y : bv_X} {b : Int32} {i : Nat} (h1 : Y 8 i = 0 ∨ Y 8 i = 1) (h2 : ¬ bv_fr Y b i 8 i = 0) (h3 : ¬ Y 4 i = b) : bv_up (bv_fr Y b i) 8 i 1 = bv_fr Y b (i + 1) := by
  rw [bv_fr_8] at h2
  rw [bv_up_id (by rw [bv_fr_8]; exact h1.resolve_left h2)]
  exact bv_fr_n h3
theorem bv_prx_f {X : bv_X} {i j q c5 : Nat} (hj : j < 8) (hc : c5 ≤ 5) (ec : X 15 j = nI c5) (hi : i ≤ c5) (h : nI (5 * j + c5) ≤ nI (5 * j + i)) : bI (bv_px (fun i => X 16 (5 * j + i)) (fun i => X 17 (5 * j + i)) (fun i => X 18 (5 * j + i)) (nI q) (X 0 0) i = true) = bI (bv_prx X j q = true) := by
  have e := bv_eq_of (x := nI (5 * j + c5)) (c := 5 * j + c5) (i := 5 * j + i) rfl (by omega) (by omega) h
  have e2 : i = c5 := by omega
  rw [e2, bv_prx_c hc ec]
