/-! ===== PURE, for the public calls ===== -/
theorem bv_lt5 {x : Int32} {a b : Nat} (e : x = nI a) (ha : a < 2 ^ 31) (hb : b < 2 ^ 31) (h : x < nI b) : a < b := by
  subst e
  exact (nI_ltI ha hb).mp h
theorem bv_ne_lt {x : Int32} {a b : Nat} (e : x = nI a) (h : a < b) (hb : b < 2 ^ 31) : ¬ x = nI b := by
  subst e
  intro h2
  have := (nI_eq (show a < 2 ^ 31 by omega) hb).mp h2
  omega
theorem bv_eq_ge {x : Int32} {a b : Nat} (e : x = nI a) (hab : a ≤ b) (hb : b < 2 ^ 31) (h : ¬ x < nI b) : x = nI b := by
  subst e
  rcases Nat.lt_or_ge a b with q | q
  · exact absurd (nI_lt q hb) h
  · rw [show a = b by omega]
theorem bv_dpv (X : bv_X) (q i k : Nat) : bv_vw (bv_dp (bv_up X 1 q 1) q i) 10 k = bv_vw X 10 k := by
  rw [bv_vw_10, bv_vw_10]
  rfl
theorem bv_dc_s (X : bv_X) (q n : Nat) : bv_dc X q (n + 1) = bv_dc X q n + (if X 10 n = nI q ∧ X 9 n = 1 then 1 else 0) := rfl
theorem bv_dc_1 {X : bv_X} {q n : Nat} (hq : q < 2 ^ 31) (h : bv_vw X 10 n = nI q) (h9 : X 9 n = 1) : bv_dc X q n + 1 = bv_dc X q (n + 1) := by
  rw [bv_dc_s, if_pos ⟨((bv_hol hq).mp h).2, h9⟩]
theorem bv_dc_0 {X : bv_X} {q n : Nat} (h9 : ¬ X 9 n = 1) : bv_dc X q n + 0 = bv_dc X q (n + 1) := by
  rw [bv_dc_s, if_neg (fun h => h9 h.2)]
theorem bv_dc_n {X : bv_X} {q n : Nat} (hq : q < 2 ^ 31) (h : ¬ bv_vw X 10 n = nI q) : bv_dc X q n = bv_dc X q (n + 1) := by
  rw [bv_dc_s, if_neg, Int32.add_zero]
  rintro ⟨h1, h2⟩
  exact h ((bv_hol hq).mpr ⟨by rw [h2]; decide, h1⟩)
theorem bv_ma_s (X : bv_X) (j n : Nat) : bv_ma X j (n + 1) = bv_ma X j n + (if bv_rt X j n = 3 then 0 else 1) := rfl
theorem bv_rt_n2 {X : bv_X} {j q : Nat} : ¬ bv_rt X j q = 2 := by
  intro h
  rcases bv_rt_4 X j q with e | e | e <;> rw [e] at h <;> exact absurd h (by decide)
theorem bv_rt_0 {X : bv_X} {j q : Nat} (h1 : ¬ bv_rt X j q = 1) (h3 : ¬ bv_rt X j q = 3) : bv_rt X j q = 0 := by
  rcases bv_rt_4 X j q with e | e | e
  · exact e
  · exact absurd e h1
  · exact absurd e h3
theorem bv_en_r {n : Nat} {X : bv_X} {j q : Nat} {c : Int32} (hI : bv_I n X) (hj : j < 8) (h : c = 2 ∨ c = 3) : bv_en X j q c = bv_up X 3 q (X 3 q + 1) := by
  have h0 : ¬ (c = 0 ∨ c = 1) := by rcases h with h | h <;> rw [h] <;> decide
  have h1 : ¬ c = 1 := fun e => h0 (Or.inr e)
  unfold bv_en
  rw [if_pos h, if_neg h0, Int32.add_zero, bv_up_id (X := bv_up X 3 q (X 3 q + 1)) (r := 13) (i := j) (v := X 13 j) (by rw [bv_up_o _ (by omega)]), bv_up_id]
  rw [bv_up_o _ (by omega)]
  rcases bv_I_will hI hj with e | e
  · rw [e, if_neg]
    rintro (h2 | h2)
    · exact h2 rfl
    · exact h1 h2
  · rw [e, if_pos (Or.inl (by decide))]
theorem bv_en_e {n : Nat} {X : bv_X} {j q : Nat} (hI : bv_I n X) (hj : j < 8) : bv_en X j q 0 = bv_up X 13 j (X 13 j + 1) := by
  unfold bv_en
  rw [if_neg (show ¬ ((0 : Int32) = 2 ∨ (0 : Int32) = 3) by decide), if_pos (show (0 : Int32) = 0 ∨ (0 : Int32) = 1 by decide), Int32.add_zero, bv_up_id (X := X) (r := 3) (i := q) rfl, bv_up_id]
  rw [bv_up_o _ (by omega)]
  rcases bv_I_will hI hj with e | e
  · rw [e, if_neg]
    decide
  · rw [e, if_pos (Or.inl (by decide))]
theorem bv_en_l {X : bv_X} {j q : Nat} : bv_en X j q 1 = bv_up (bv_up X 13 j (X 13 j + 1)) 14 j 1 := by
  unfold bv_en
  rw [if_neg (show ¬ ((1 : Int32) = 2 ∨ (1 : Int32) = 3) by decide), if_pos (show (1 : Int32) = 0 ∨ (1 : Int32) = 1 by decide), Int32.add_zero, bv_up_id (X := X) (r := 3) (i := q) rfl, if_pos (Or.inr rfl)]
/-- .. free -/
theorem bv_vw_free (X : bv_X) {j : Nat} : bv_up (bv_up (bv_vw X) 9 j 0) 10 j (-1) = bv_vw (bv_up X 9 j 0) := by
  apply bv_X_ext
  intro a b
  rw [bv_up_at, bv_up_at]
  unfold bv_vw
  by_cases q : a = 10
  · subst q
    rw [if_pos rfl, if_pos rfl]
    by_cases q1 : b = j
    · subst q1
      rw [if_pos ⟨rfl, rfl⟩, bv_up_ss, if_pos rfl]
    · rw [if_neg (by omega), if_neg (by omega), bv_up_o _ (by omega), bv_up_o _ (by omega)]
  · rw [if_neg (by omega), if_neg q, if_neg q]
    by_cases q1 : a = 9 ∧ b = j
    · obtain ⟨rfl, rfl⟩ := q1
      rw [if_pos ⟨rfl, rfl⟩, if_pos (by omega), bv_up_ss]
    · rw [if_neg q1]
      by_cases q2 : a < 16
      · rw [if_pos q2, if_pos q2, bv_up_o _ q1]
      · rw [if_neg q2, if_neg q2, bv_up_o _ (by omega)]
/-- .. or goes from one kind of taken to another -/
theorem bv_vw_st (X : bv_X) {j : Nat} {v : Int32} (h : ¬ X 9 j = 0) (hv : ¬ v = 0) : bv_up (bv_vw X) 9 j v = bv_vw (bv_up X 9 j v) := by
  apply bv_X_ext
  intro a b
  rw [bv_up_at]
  unfold bv_vw
  by_cases q : a = 10
  · subst q
    rw [if_neg (by omega), if_pos rfl, if_pos rfl]
    by_cases q1 : b = j
    · subst q1
      rw [bv_up_ss, if_neg hv, if_neg h, bv_up_o _ (by omega)]
    · rw [bv_up_o _ (by omega), bv_up_o _ (by omega)]
  · rw [if_neg q, if_neg q]
    by_cases q1 : a = 9 ∧ b = j
    · obtain ⟨rfl, rfl⟩ := q1
      rw [if_pos ⟨rfl, rfl⟩, if_pos (by omega), bv_up_ss]
    · rw [if_neg q1]
      by_cases q2 : a < 16
      · rw [if_pos q2, if_pos q2, bv_up_o _ q1]
      · rw [if_neg q2, if_neg q2, bv_up_o _ (by omega)]
theorem bv_nt_r {X : bv_X} {j : Nat} (h : ¬ X 9 j = 1) : bv_nt X j = 0 := by
  unfold bv_nt
  rw [if_pos h]
theorem bv_lt_ne {x : Int32} {a b : Nat} (e : x = nI a) (hab : a ≤ b) (h : ¬ x = nI b) : a < b := by
  subst e
  rcases Nat.lt_or_ge a b with q | q
  · exact q
  · exact absurd (by rw [show a = b by omega]) h
theorem bv_fr12 (Y : bv_X) (b : Int32) (n : Nat) : bv_fr Y b n 12 = Y 12 := bv_fr_ne (by decide)
theorem bv_fr13 (Y : bv_X) (b : Int32) (n : Nat) : bv_fr Y b n 13 = Y 13 := bv_fr_ne (by decide)
theorem bv_hb_i {n : Nat} {X : bv_X} (hI : bv_I n X) {o : Int32} (h : bv_hb X o = true) : ∃ i, i < 30 ∧ o = nI i := by
  rw [bv_hb_v hI] at h
  have h := of_decide_eq_true h
  exact bv_ofN (n := 30) (y := 30) (by decide) h.1 rfl h.2.2
