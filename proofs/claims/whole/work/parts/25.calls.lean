/-! ===== WHAT EACH CALL DOES: its number of a throw (0 none), its answer, the rows behind it ===== -/
abbrev bv_R : Type := Int32 × Int32 × bv_X
def bv_rb (v lo hi : Int32) : Bool := decide (bv_rg v lo hi)
theorem bv_rb_t {v lo hi : Int32} (h : bv_rg v lo hi) : bv_rb v lo hi = true := decide_eq_true h
theorem bv_rb_f {v lo hi : Int32} (h : ¬ bv_rg v lo hi) : bv_rb v lo hi = false := decide_eq_false h
abbrev bv_nb (x : Int32) : Nat := x.toNatClampNeg
abbrev bv_cnt (X : bv_X) : Nat := bv_nb (X 0 1)
def bv_free (X : bv_X) (j : Nat) : bv_X := bv_fr (bv_up (bv_up X 9 j 0) 15 j 0) (nI j) (bv_cnt X)
def bv_ko (X : bv_X) (j : Nat) : Int32 := if bv_bd X (nI j) = -1 then -1 else X 6 (bv_bd X (nI j)).toNatClampNeg
/-- of a death: whose proxies end, how many boxes are rented -/
def bv_dp (Y : bv_X) (q n : Nat) : bv_X := fun r j => if r = 15 ∧ j < n ∧ ¬ Y 9 j = 0 ∧ Y 10 j = nI q then 0 else Y r j
def bv_dc (X : bv_X) (q : Nat) : Nat → Int32
  | 0 => 0
  | n + 1 => bv_dc X q n + (if X 10 n = nI q ∧ X 9 n = 1 then 1 else 0)
def bv_ma (X : bv_X) (j : Nat) : Nat → Int32
  | 0 => 0
  | n + 1 => bv_ma X j n + (if bv_rt X j n = 3 then 0 else 1)
def bv_hb (X : bv_X) (o : Int32) : Bool := decide (¬ o < 0 ∧ ¬ X 0 1 ≤ o)
def sp_pass (X : bv_X) (p0 : Int32) : bv_R := if bv_rb p0 1 1000 = true then (if 99999 < X 0 0 + p0 then (2, 0, X) else (0, X 0 0 + p0, bv_up X 0 0 (X 0 0 + p0))) else (1, 0, X)
def sp_rent (X : bv_X) (p0 p1 p2 : Int32) : bv_R := if bv_rb p0 0 7 = true ∧ bv_rb p1 0 15 = true ∧ bv_rb p2 1 1000 = true then (if X 9 (bv_nb p0) = 0 ∧ X 1 (bv_nb p1) = 0 then (0, X 0 0 + p2, bv_up (bv_up (bv_up (bv_up (bv_up X 9 (bv_nb p0) 1) 10 (bv_nb p0) p1) 11 (bv_nb p0) (X 0 0 + p2)) 13 (bv_nb p0) 0) 14 (bv_nb p0) 0) else (2, 0, X)) else (1, 0, X)
def sp_extend (X : bv_X) (p0 p1 : Int32) : bv_R := if bv_rb p0 0 7 = true ∧ bv_rb p1 1 1000 = true then (if X 9 (bv_nb p0) = 1 then (0, X 11 (bv_nb p0) + p1, bv_up X 11 (bv_nb p0) (X 11 (bv_nb p0) + p1)) else (2, 0, X)) else (1, 0, X)
def sp_giveBack (X : bv_X) (p0 p1 : Int32) : bv_R := if bv_rb p0 0 7 = true ∧ bv_rb p1 0 15 = true then (if bv_rt X (bv_nb p0) (bv_nb p1) = 0 then (0, X 13 (bv_nb p0), bv_free X (bv_nb p0)) else (2, 0, X)) else (1, 0, X)
def sp_drill (X : bv_X) (p0 p1 p2 : Int32) : bv_R := if bv_rb p0 0 7 = true ∧ bv_rb p1 0 15 = true ∧ bv_rb p2 0 15 = true ∧ ¬ p1 = p2 then (if bv_nt X (bv_nb p0) = 3 ∧ (X 1 (bv_nb p1) = 0 ∧ ¬ p1 = X 10 (bv_nb p0)) ∧ (X 1 (bv_nb p2) = 0 ∧ ¬ p2 = X 10 (bv_nb p0)) ∧ ¬ bv_ko X (bv_nb p0) = 0 then (0, bv_ov (X 0 0) (X 11 (bv_nb p0)), bv_up (bv_up X 12 (bv_nb p0) (bv_ov (X 0 0) (X 11 (bv_nb p0)))) 9 (bv_nb p0) 2) else (2, 0, X)) else (1, 0, X)
def sp_fetch (X : bv_X) (p0 p1 : Int32) : bv_R := if bv_rb p0 0 7 = true ∧ bv_rb p1 0 15 = true then (if X 9 (bv_nb p0) = 2 ∧ bv_mf X (bv_nb p0) (bv_nb p1) then (0, X 12 (bv_nb p0), bv_free X (bv_nb p0)) else (2, 0, X)) else (1, 0, X)
def sp_proxy (X : bv_X) (p0 p1 p2 p3 : Int32) : bv_R := if bv_rb p0 0 7 = true ∧ bv_rb p1 0 15 = true ∧ bv_rb p2 0 99999 = true ∧ bv_rb p3 p2 99999 = true then (if X 9 (bv_nb p0) = 1 ∧ X 1 (bv_hd X (bv_nb p0)) = 0 ∧ ¬ p1 = X 10 (bv_nb p0) ∧ ¬ X 15 (bv_nb p0) = 5 then (0, X 15 (bv_nb p0) + 1, bv_up (bv_up (bv_up (bv_up X 16 (5 * bv_nb p0 + bv_nb (X 15 (bv_nb p0))) p1) 17 (5 * bv_nb p0 + bv_nb (X 15 (bv_nb p0))) p2) 18 (5 * bv_nb p0 + bv_nb (X 15 (bv_nb p0))) p3) 15 (bv_nb p0) (X 15 (bv_nb p0) + 1)) else (2, 0, X)) else (1, 0, X)
def sp_heir (X : bv_X) (p0 p1 p2 : Int32) : bv_R := if bv_rb p0 0 15 = true ∧ bv_rb p1 0 15 = true ∧ ¬ p0 = p1 then (0, bI (bv_hr X (bv_nb p1) (bv_nb p0)), bv_up X 2 (bv_nb p0) (if p2 = 0 then X 2 (bv_nb p0) &&& ((1 <<< (p1 &&& 31)) ^^^ (-1)) else X 2 (bv_nb p0) ||| (1 <<< (p1 &&& 31)))) else (1, 0, X)
def sp_die (X : bv_X) (p0 : Int32) : bv_R := if bv_rb p0 0 15 = true then (if X 1 (bv_nb p0) = 0 then (0, bv_dc X (bv_nb p0) 8, bv_dp (bv_up X 1 (bv_nb p0) 1) (bv_nb p0) 8) else (2, 0, X)) else (1, 0, X)
def sp_order (X : bv_X) (p0 p1 p2 p3 : Int32) : bv_R := if bv_rb p0 0 7 = true ∧ bv_rb p1 0 1 = true ∧ bv_rb p2 0 2 = true ∧ ¬ (p2 = 1 ∧ bv_rb p3 0 15 = false) then (if X 9 (bv_nb p0) = 0 ∨ X 0 1 = 30 then (2, 0, X) else (0, X 0 1, bv_up (bv_up (bv_up (bv_up (bv_up (bv_up X 4 (bv_cnt X) p0) 5 (bv_cnt X) p1) 6 (bv_cnt X) p2) 7 (bv_cnt X) p3) 8 (bv_cnt X) 1) 0 1 (X 0 1 + 1))) else (1, 0, X)
def sp_lift (X : bv_X) (p0 : Int32) : bv_R := if bv_hb X p0 = true then (if X 8 (bv_nb p0) = 0 then (2, 0, X) else (0, bI (bv_bd X (X 4 (bv_nb p0)) = p0), bv_up X 8 (bv_nb p0) 0)) else (1, 0, X)
def bv_co (X : bv_X) (j q : Nat) (k : Int32) : Int32 := if ¬ bv_rt X j q = 3 ∧ k < 60 then 2 else bv_rt X j q
def bv_en (X : bv_X) (j q : Nat) (c : Int32) : bv_X := bv_up (bv_up (bv_up X 3 q (X 3 q + (if c = 2 ∨ c = 3 then 1 else 0))) 13 j (X 13 j + (if c = 0 ∨ c = 1 then 1 else 0))) 14 j (if ¬ X 14 j = 0 ∨ c = 1 then 1 else 0)
def sp_enter (X : bv_X) (p0 p1 p2 : Int32) : bv_R := if bv_rb p0 0 7 = true ∧ bv_rb p1 0 15 = true ∧ bv_rb p2 0 100 = true then (if X 9 (bv_nb p0) = 1 then (0, bv_co X (bv_nb p0) (bv_nb p1) p2, bv_en X (bv_nb p0) (bv_nb p1) (bv_co X (bv_nb p0) (bv_nb p1) p2)) else (2, 0, X)) else (1, 0, X)
def sp_may (X : bv_X) (p0 p1 : Int32) : bv_R := if bv_rb p0 0 7 = true ∧ bv_rb p1 0 15 = true then (0, bv_rt X (bv_nb p0) (bv_nb p1), X) else (1, 0, X)
def sp_mayAll (X : bv_X) (p0 : Int32) : bv_R := if bv_rb p0 0 7 = true then (0, bv_ma X (bv_nb p0) 16, X) else (1, 0, X)
def sp_holder (X : bv_X) (p0 : Int32) : bv_R := if bv_rb p0 0 7 = true then (0, if X 9 (bv_nb p0) = 0 then -1 else X 10 (bv_nb p0), X) else (1, 0, X)
def sp_notices (X : bv_X) (p0 : Int32) : bv_R := if bv_rb p0 0 7 = true then (0, bv_nt X (bv_nb p0), X) else (1, 0, X)
def sp_refusals (X : bv_X) (p0 : Int32) : bv_R := if bv_rb p0 0 15 = true then (0, X 3 (bv_nb p0), X) else (1, 0, X)
def sp_binding (X : bv_X) (p0 : Int32) : bv_R := if bv_rb p0 0 7 = true then (0, bv_bd X p0, X) else (1, 0, X)
/-! what the two sides say otherwise -/
theorem bv_1000 {p0 : Int32} (h : bv_rg p0 1 1000) : ∃ d, 1 ≤ d ∧ d ≤ 1000 ∧ p0 = nI d := by
  obtain ⟨h1, h2⟩ := h
  have h0 : ¬ p0 < 0 := by
    intro h3
    apply h1
    rw [Int32.lt_iff_toInt_lt] at *
    have e0 : (0 : Int32).toInt = 0 := rfl
    have e1 : (1 : Int32).toInt = 1 := rfl
    omega
  obtain ⟨d, hd, e⟩ := nI_of h0
  subst e
  refine ⟨d, ?_, ?_, rfl⟩
  · rcases Nat.lt_or_ge d 1 with q | q
    · exact absurd (nI_lt (b := 1) q (by decide)) h1
    · exact q
  · rcases Nat.lt_or_ge 1000 d with q | q
    · exact absurd (nI_lt (a := 1000) q hd) h2
    · exact q
theorem bv_late {n : Nat} {X : bv_X} (hI : bv_I n X) {p0 : Int32} (h : bv_rg p0 1 1000) : p0 ≤ 99999 - X 0 0 ↔ ¬ 99999 < X 0 0 + p0 := by
  obtain ⟨d, h1, h2, rfl⟩ := bv_1000 h
  obtain ⟨t, h3, h4⟩ := bv_I_now hI
  rw [h4, nI_add, show (99999 : Int32) - nI t = nI (99999 - t) from pk_sub h3, nI_leI (by omega) (by omega), show (99999 : Int32) = nI 99999 from rfl, nI_ltI (by omega) (by omega)]
  omega
theorem bv_nt_le (X : bv_X) (j : Nat) (h : 3 ≤ bv_nt X j) : bv_nt X j = 3 := by
  unfold bv_nt at *
  have e3 : (3 : Int32).toInt = 3 := rfl
  split
  · rename_i h1
    rw [if_pos h1] at h
    exact absurd h (by decide)
  · rename_i h1
    rw [if_neg h1] at h
    split
    · rename_i h2
      rw [if_pos h2] at h
      apply Int32.toInt_inj.mp
      rw [Int32.le_iff_toInt_le] at h h2
      omega
    · rfl
theorem bv_nt_ge {X : bv_X} {j : Nat} (h : ¬ 3 ≤ bv_nt X j) : ¬ bv_nt X j = 3 := by
  intro e
  rw [e] at h
  exact h (by decide)
theorem bv_I_ko {n : Nat} {X : bv_X} (hI : bv_I n X) (j : Nat) : (if ¬ bv_bd X (nI j) < 0 ∧ ¬ X 0 1 ≤ bv_bd X (nI j) ∧ ¬ 30 ≤ bv_bd X (nI j) then X 6 (bv_bd X (nI j)).toNatClampNeg else -1) = bv_ko X j := by
  unfold bv_ko
  by_cases h : bv_bd X (nI j) = -1
  · rw [if_pos h, if_neg]
    rw [h]
    exact fun h2 => h2.1 (by decide)
  · obtain ⟨o, h1, h2, h3, h4, h5⟩ := bv_I_bd hI h
    rw [if_neg h, if_pos]
    rw [h2]
    exact ⟨nI_pos (by omega), h5, nI_ge (a := o) (b := 30) h1 (by decide)⟩
theorem bv_up_comm (X : bv_X) {r r2 i i2 : Nat} {v v2 : Int32} (h : r ≠ r2) : bv_up (bv_up X r i v) r2 i2 v2 = bv_up (bv_up X r2 i2 v2) r i v := by
  apply bv_X_ext
  intro a b
  rw [bv_up_at, bv_up_at, bv_up_at, bv_up_at]
  by_cases q : a = r ∧ b = i
  · rw [if_neg (show ¬ (a = r2 ∧ b = i2) by omega), if_pos q, if_pos q]
  · rw [if_neg q, if_neg q]
theorem bv_vw_u16 (X : bv_X) {j i : Nat} {v : Int32} (hj : j < 8) (hi : i < 5) : bv_up (bv_vw X) (16 + j) i v = bv_vw (bv_up X 16 (5 * j + i) v) := bv_vw_upp X (k := 0) (by decide) hj hi
theorem bv_vw_u24 (X : bv_X) {j i : Nat} {v : Int32} (hj : j < 8) (hi : i < 5) : bv_up (bv_vw X) (24 + j) i v = bv_vw (bv_up X 17 (5 * j + i) v) := by
  have h := bv_vw_upp X (k := 1) (v := v) (by decide) hj hi
  rwa [show 16 + 8 * 1 + j = 24 + j by omega] at h
theorem bv_vw_u32 (X : bv_X) {j i : Nat} {v : Int32} (hj : j < 8) (hi : i < 5) : bv_up (bv_vw X) (32 + j) i v = bv_vw (bv_up X 18 (5 * j + i) v) := by
  have h := bv_vw_upp X (k := 2) (v := v) (by decide) hj hi
  rwa [show 16 + 8 * 2 + j = 32 + j by omega] at h
theorem bv_dp_at (Y : bv_X) (q n r j : Nat) : bv_dp Y q n r j = if r = 15 ∧ j < n ∧ ¬ Y 9 j = 0 ∧ Y 10 j = nI q then 0 else Y r j := rfl
theorem bv_dp_0 (Y : bv_X) (q : Nat) : bv_dp Y q 0 = Y := bv_X_ext fun r i => if_neg (by omega)
theorem bv_dp_y {Y : bv_X} {q i : Nat} (h : ¬ Y 9 i = 0 ∧ Y 10 i = nI q) : bv_up (bv_dp Y q i) 15 i 0 = bv_dp Y q (i + 1) := by
  apply bv_X_ext
  intro r j
  rw [bv_up_at, bv_dp_at, bv_dp_at]
  by_cases h1 : r = 15 ∧ j = i
  · obtain ⟨rfl, rfl⟩ := h1
    rw [if_pos ⟨rfl, rfl⟩, if_pos ⟨rfl, by omega, h⟩]
  · rw [if_neg h1]
    by_cases h2 : r = 15 ∧ j < i ∧ ¬ Y 9 j = 0 ∧ Y 10 j = nI q
    · rw [if_pos h2, if_pos ⟨h2.1, by omega, h2.2.2⟩]
    · rw [if_neg h2, if_neg]
      intro h3
      have h4 : j ≠ i := fun h4 => h1 ⟨h3.1, h4⟩
      exact h2 ⟨h3.1, by omega, h3.2.2⟩
theorem bv_dp_n {Y : bv_X} {q i : Nat} (h : ¬ (¬ Y 9 i = 0 ∧ Y 10 i = nI q)) : bv_dp Y q i = bv_dp Y q (i + 1) := by
  apply bv_X_ext
  intro r j
  rw [bv_dp_at, bv_dp_at]
  by_cases h2 : r = 15 ∧ j < i ∧ ¬ Y 9 j = 0 ∧ Y 10 j = nI q
  · rw [if_pos h2, if_pos ⟨h2.1, by omega, h2.2.2⟩]
  · rw [if_neg h2, if_neg]
    intro h3
    have h4 : j ≠ i := fun h4 => h (by rw [← h4]; exact h3.2.2)
    exact h2 ⟨h3.1, by omega, h3.2.2⟩
theorem bv_vw_10 (X : bv_X) (j : Nat) : bv_vw X 10 j = if X 9 j = 0 then -1 else X 10 j := by
  unfold bv_vw
  rw [if_pos rfl]
theorem bv_hol {X : bv_X} {j q : Nat} (hq : q < 2 ^ 31) : bv_vw X 10 j = nI q ↔ (¬ X 9 j = 0 ∧ X 10 j = nI q) := by
  rw [bv_vw_10]
  by_cases h : X 9 j = 0
  · rw [if_pos h]
    exact ⟨fun e => absurd e.symm (bv_m1 hq), fun e => absurd h e.1⟩
  · rw [if_neg h]
    exact ⟨fun e => ⟨h, e⟩, fun e => e.2⟩
theorem bv_hb_v {n : Nat} {X : bv_X} (hI : bv_I n X) (o : Int32) : bv_hb X o = decide (¬ o < 0 ∧ ¬ X 0 1 ≤ o ∧ ¬ 30 ≤ o) := by
  obtain ⟨c, h1, h2⟩ := bv_I_cnt hI
  unfold bv_hb
  apply decide_eq_decide.mpr
  constructor
  · rintro ⟨a, b⟩
    refine ⟨a, b, ?_⟩
    rw [h2] at b
    obtain ⟨j, hj, rfl⟩ := bv_ofN (by omega) a rfl b
    exact nI_ge (a := j) (b := 30) (by omega) (by decide)
  · rintro ⟨a, b, -⟩
    exact ⟨a, b⟩
theorem bv_hb_m {n : Nat} {X : bv_X} (hI : bv_I n X) (o : Int32) : bv_rb o 0 (X 0 1 - 1) = bv_hb X o := by
  obtain ⟨c, h1, h2⟩ := bv_I_cnt hI
  unfold bv_hb bv_rb
  apply decide_eq_decide.mpr
  rw [h2]
  constructor
  · rintro ⟨a, b⟩
    refine ⟨a, ?_⟩
    obtain ⟨j, hj, rfl⟩ := nI_of a
    by_cases hc : c = 0
    · subst hc
      have : (nI 0 - 1 : Int32) < nI j := by
        rw [Int32.lt_iff_toInt_lt, nI_toInt hj]
        have e : (nI 0 - 1 : Int32).toInt = -1 := by decide
        omega
      exact absurd this b
    · have e : nI c - 1 = nI (c - 1) := pk_sub (a := c) (b := 1) (by omega)
      rw [e] at b
      intro h
      have h5 := (nI_leI (by omega) hj).mp h
      exact b (nI_lt (by omega) hj)
  · rintro ⟨a, b⟩
    refine ⟨a, ?_⟩
    obtain ⟨j, hj, rfl⟩ := bv_ofN (by omega) a rfl b
    have e : nI c - 1 = nI (c - 1) := pk_sub (a := c) (b := 1) (by omega)
    rw [e]
    exact nI_nlt (by omega) (by omega)
theorem bv_rt_4 (X : bv_X) (j q : Nat) : bv_rt X j q = 0 ∨ bv_rt X j q = 1 ∨ bv_rt X j q = 3 := by
  unfold bv_rt
  split
  · exact Or.inr (Or.inr rfl)
  · split
    · split
      · exact Or.inl rfl
      · exact Or.inr (Or.inr rfl)
    · split
      · split
        · exact Or.inl rfl
        · exact Or.inr (Or.inr rfl)
      · split
        · exact Or.inr (Or.inl rfl)
        · exact Or.inr (Or.inr rfl)
theorem bv_rt_r {X : bv_X} {j q : Nat} (h : ¬ X 9 j = 1) : bv_rt X j q = 3 := by
  unfold bv_rt
  rw [if_pos (Or.inl h)]
