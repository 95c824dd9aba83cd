/-! ===== THE CALLS, over the model's rows ===== -/
theorem bv_lt_of {x : Int32} {i c : Nat} (ec : x = nI c) (hc : c < 2 ^ 31) (hi : i ≤ c) (h : ¬ x ≤ nI i) : i < c := by
  subst ec
  rcases Nat.lt_or_ge i c with q | q
  · exact q
  · exact absurd (nI_le q (by omega)) h
theorem bv_eq_of {x : Int32} {i c : Nat} (ec : x = nI c) (hc : c < 2 ^ 31) (hi : i ≤ c) (h : x ≤ nI i) : i = c := by
  subst ec
  have := (nI_leI hc (show i < 2 ^ 31 by omega)).mp h
  omega
/-- what the vault holds where the model holds X -/
def bv_vw (X : bv_X) : bv_X := fun r j => if r = 10 then (if X 9 j = 0 then -1 else X 10 j) else if r < 16 then X r j else if r < 40 then (if j < 5 then X (16 + (r - 16) / 8) (5 * ((r - 16) % 8) + j) else 0) else 0
theorem bv_vw_r (X : bv_X) {r : Nat} (h : r < 16) (h2 : r ≠ 10) : bv_vw X r = X r := by
  funext j
  unfold bv_vw
  rw [if_neg h2, if_pos h]
theorem bv_vw_h (X : bv_X) {j : Nat} (h : ¬ X 9 j = 0) : bv_vw X 10 j = X 10 j := by
  unfold bv_vw
  rw [if_pos rfl, if_neg h]
theorem bv_vw_h0 (X : bv_X) {j : Nat} (h : X 9 j = 0) : bv_vw X 10 j = -1 := by
  unfold bv_vw
  rw [if_pos rfl, if_pos h]
theorem bv_vw_p (X : bv_X) {j i k : Nat} (hk : k < 3) (hj : j < 8) (hi : i < 5) : bv_vw X (16 + 8 * k + j) i = X (16 + k) (5 * j + i) := by
  unfold bv_vw
  rw [if_neg (by omega), if_neg (by omega), if_pos (by omega), if_pos hi, show (16 + 8 * k + j - 16) / 8 = k by omega, show (16 + 8 * k + j - 16) % 8 = j by omega]
/-- stores into rows that are the same on both sides -/
theorem bv_vw_up (X : bv_X) {r i : Nat} {v : Int32} (h : r < 16) (h9 : r ≠ 9) (h10 : r ≠ 10) : bv_up (bv_vw X) r i v = bv_vw (bv_up X r i v) := by
  apply bv_X_ext
  intro a b
  rw [bv_up_at]
  by_cases h1 : a = r ∧ b = i
  · obtain ⟨rfl, rfl⟩ := h1
    rw [if_pos ⟨rfl, rfl⟩, bv_vw_r _ h h10, bv_up_ss]
  · rw [if_neg h1]
    unfold bv_vw
    by_cases q : a = 10
    · subst q
      rw [if_pos rfl, if_pos rfl, bv_up_o _ (by omega), bv_up_o _ (by omega)]
    · rw [if_neg q, if_neg q]
      by_cases q2 : a < 16
      · rw [if_pos q2, if_pos q2, bv_up_o _ h1]
      · rw [if_neg q2, if_neg q2, bv_up_o _ (by omega)]
theorem bv_vw_upp (X : bv_X) {j i k : Nat} {v : Int32} (hk : k < 3) (hj : j < 8) (hi : i < 5) : bv_up (bv_vw X) (16 + 8 * k + j) i v = bv_vw (bv_up X (16 + k) (5 * j + i) v) := by
  apply bv_X_ext
  intro a b
  rw [bv_up_at]
  by_cases h1 : a = 16 + 8 * k + j ∧ b = i
  · obtain ⟨rfl, rfl⟩ := h1
    rw [if_pos ⟨rfl, rfl⟩, bv_vw_p _ hk hj hi, bv_up_ss]
  · rw [if_neg h1]
    unfold bv_vw
    by_cases q : a = 10
    · subst q
      rw [if_pos rfl, if_pos rfl, bv_up_o _ (by omega), bv_up_o _ (by omega)]
    · rw [if_neg q, if_neg q]
      by_cases q2 : a < 16
      · rw [if_pos q2, if_pos q2, bv_up_o _ (by omega)]
      · rw [if_neg q2, if_neg q2]
        by_cases q3 : a < 40
        · rw [if_pos q3, if_pos q3]
          by_cases q4 : b < 5
          · rw [if_pos q4, if_pos q4, bv_up_o]
            rintro ⟨e1, e2⟩
            apply h1
            have e3 : (a - 16) / 8 = k := by omega
            have e4 : (a - 16) % 8 = j := by omega
            exact ⟨by omega, by omega⟩
          · rw [if_neg q4, if_neg q4]
        · rw [if_neg q3, if_neg q3]
/-- a box becomes rented -/
theorem bv_vw_rent (X : bv_X) {j : Nat} {h v : Int32} (hv : ¬ v = 0) : bv_up (bv_up (bv_vw X) 9 j v) 10 j h = bv_vw (bv_up (bv_up X 9 j v) 10 j h) := by
  apply bv_X_ext
  intro a b
  rw [bv_up_at, bv_up_at]
  unfold bv_vw
  by_cases q : a = 10
  · subst q
    rw [if_pos rfl, if_pos rfl]
    by_cases q1 : b = j
    · subst q1
      rw [if_pos ⟨rfl, rfl⟩, bv_up_o _ (by omega), bv_up_ss, if_neg hv, bv_up_ss]
    · rw [if_neg (by omega), if_neg (by omega), bv_up_o _ (by omega), bv_up_o _ (by omega), bv_up_o _ (by omega), bv_up_o _ (by omega)]
  · rw [if_neg (by omega), if_neg q, if_neg q]
    by_cases q1 : a = 9 ∧ b = j
    · obtain ⟨rfl, rfl⟩ := q1
      rw [if_pos ⟨rfl, rfl⟩, if_pos (by omega), bv_up_o _ (by omega), bv_up_ss]
    · rw [if_neg q1]
      by_cases q2 : a < 16
      · rw [if_pos q2, if_pos q2, bv_up_o _ (by omega), bv_up_o _ q1]
      · rw [if_neg q2, if_neg q2, bv_up_o _ (by omega), bv_up_o _ (by omega)]
/-- .. free -/
theorem bv_vw_fr (X : bv_X) (b : Int32) (n : Nat) : bv_fr (bv_vw X) b n = bv_vw (bv_fr X b n) := by
  apply bv_X_ext
  intro r i
  show (if r = 8 ∧ i < n ∧ bv_vw X 4 i = b then 0 else bv_vw X r i) = bv_vw (bv_fr X b n) r i
  by_cases h8 : r = 8
  · subst h8
    rw [bv_vw_r X (r := 4) (by decide) (by decide), bv_vw_r X (r := 8) (by decide) (by decide), bv_vw_r _ (r := 8) (by decide) (by decide)]
    rfl
  · rw [if_neg (fun h => h8 h.1)]
    unfold bv_vw
    rw [bv_fr_ne (r := 9) (by decide), bv_fr_ne (r := 10) (by decide), bv_fr_ne (r := r) h8, bv_fr_ne (r := 16 + (r - 16) / 8) (by omega)]
theorem bv_vw_bn (X : bv_X) (b : Int32) : ∀ n, bv_bn (bv_vw X) b n = bv_bn X b n
  | 0 => rfl
  | n + 1 => by
    rw [bv_bn_s, bv_bn_s, bv_vw_bn X b n, bv_vw_r X (r := 4) (by decide) (by decide), bv_vw_r X (r := 5) (by decide) (by decide), bv_vw_r X (r := 8) (by decide) (by decide)]
/-- the order that binds a box -/
def bv_bd (X : bv_X) (b : Int32) : Int32 := bv_bn X b (X 0 1).toNatClampNeg
theorem bv_bd_c {X : bv_X} {b : Int32} {c : Nat} (ec : X 0 1 = nI c) (hc : c ≤ 30) : bv_bn X b c = bv_bd X b := by
  unfold bv_bd
  rw [ec, nI_clamp (by omega)]
abbrev bv_hr (X : bv_X) (q h : Nat) : Prop := ((X 2 h >>> (nI q &&& 31)) &&& 1) = 1
abbrev bv_hd (X : bv_X) (j : Nat) : Nat := (X 10 j).toNatClampNeg
/-- may a person who is alive, by the order o for the box j -/
abbrev bv_od (X : bv_X) (o j q : Nat) : Prop := (X 6 o = 1 ∧ nI q = X 7 o) ∨ (X 6 o = 2 ∧ ¬ X 1 (bv_hd X j) = 0 ∧ bv_hr X q (bv_hd X j))
def bv_nt (X : bv_X) (j : Nat) : Int32 := if ¬ X 9 j = 1 then 0 else if bv_ov (X 0 0) (X 11 j) / 30 ≤ 3 then bv_ov (X 0 0) (X 11 j) / 30 else 3
def bv_prx (X : bv_X) (j q : Nat) : Bool := bv_px (fun i => X 16 (5 * j + i)) (fun i => X 17 (5 * j + i)) (fun i => X 18 (5 * j + i)) (nI q) (X 0 0) (X 15 j).toNatClampNeg
def bv_rt (X : bv_X) (j q : Nat) : Int32 :=
  if ¬ X 9 j = 1 ∨ ¬ X 1 q = 0 then 3
  else if ¬ bv_bd X (nI j) = -1 then (if bv_od X (bv_bd X (nI j)).toNatClampNeg j q then 0 else 3)
  else if X 1 (bv_hd X j) = 0 then (if bv_nt X j = 0 ∧ (nI q = X 10 j ∨ bv_prx X j q = true) then 0 else 3)
  else if bv_hr X q (bv_hd X j) ∧ X 14 j = 0 then 1 else 3
abbrev bv_mf (X : bv_X) (j q : Nat) : Prop := X 1 q = 0 ∧ (if ¬ bv_bd X (nI j) = -1 then bv_od X (bv_bd X (nI j)).toNatClampNeg j q else if X 1 (bv_hd X j) = 0 then nI q = X 10 j else bv_hr X q (bv_hd X j))
/-- what holds of the rows, n calls after the start -/
def bv_I (n : Nat) (X : bv_X) : Prop :=
  (∃ t, t ≤ 99999 ∧ X 0 0 = nI t) ∧ (∃ c, c ≤ 30 ∧ X 0 1 = nI c) ∧ (∀ p, p < 16 → X 1 p = 0 ∨ X 1 p = 1) ∧
  (∀ i, i < 30 → (X 8 i = 0 ∨ X 8 i = 1) ∧ ∃ b, b < 8 ∧ X 4 i = nI b) ∧
  (∀ j, j < 8 → (X 9 j = 0 ∨ X 9 j = 1 ∨ X 9 j = 2) ∧ (∃ h, h < 16 ∧ X 10 j = nI h) ∧ (∃ d, d ≤ 101000 + 1000 * n ∧ X 11 j = nI d) ∧ (X 14 j = 0 ∨ X 14 j = 1) ∧ ∃ c, c ≤ 5 ∧ X 15 j = nI c)
theorem bv_I_now {n : Nat} {X : bv_X} (h : bv_I n X) : ∃ t, t ≤ 99999 ∧ X 0 0 = nI t := h.1
theorem bv_I_cnt {n : Nat} {X : bv_X} (h : bv_I n X) : ∃ c, c ≤ 30 ∧ X 0 1 = nI c := h.2.1
theorem bv_I_dead {n : Nat} {X : bv_X} (h : bv_I n X) {p : Nat} (hp : p < 16) : X 1 p = 0 ∨ X 1 p = 1 := h.2.2.1 p hp
theorem bv_I_holds {n : Nat} {X : bv_X} (h : bv_I n X) {i : Nat} (hi : i < 30) : X 8 i = 0 ∨ X 8 i = 1 := (h.2.2.2.1 i hi).1
theorem bv_I_at {n : Nat} {X : bv_X} (h : bv_I n X) {i : Nat} (hi : i < 30) : ∃ b, b < 8 ∧ X 4 i = nI b := (h.2.2.2.1 i hi).2
theorem bv_I_st {n : Nat} {X : bv_X} (h : bv_I n X) {j : Nat} (hj : j < 8) : X 9 j = 0 ∨ X 9 j = 1 ∨ X 9 j = 2 := (h.2.2.2.2 j hj).1
theorem bv_I_hd {n : Nat} {X : bv_X} (h : bv_I n X) {j : Nat} (hj : j < 8) : ∃ d, d < 16 ∧ X 10 j = nI d ∧ bv_hd X j = d := by
  obtain ⟨d, h1, h2⟩ := (h.2.2.2.2 j hj).2.1
  exact ⟨d, h1, h2, by unfold bv_hd; rw [h2]; exact nI_clamp (by omega)⟩
theorem bv_I_paid {n : Nat} {X : bv_X} (h : bv_I n X) {j : Nat} (hj : j < 8) : ∃ d, d ≤ 101000 + 1000 * n ∧ X 11 j = nI d := (h.2.2.2.2 j hj).2.2.1
theorem bv_I_will {n : Nat} {X : bv_X} (h : bv_I n X) {j : Nat} (hj : j < 8) : X 14 j = 0 ∨ X 14 j = 1 := (h.2.2.2.2 j hj).2.2.2.1
theorem bv_I_px {n : Nat} {X : bv_X} (h : bv_I n X) {j : Nat} (hj : j < 8) : ∃ c, c ≤ 5 ∧ X 15 j = nI c := (h.2.2.2.2 j hj).2.2.2.2
theorem bv_I_ov {n : Nat} {X : bv_X} (h : bv_I n X) (hn : n ≤ 1000) {j : Nat} (hj : j < 8) : bv_vo (X 0 0) (X 11 j) = bv_ov (X 0 0) (X 11 j) := by
  obtain ⟨t, h1, h2⟩ := bv_I_now h
  obtain ⟨d, h3, h4⟩ := bv_I_paid h hj
  rw [h2, h4]
  exact bv_vo_ov (by omega) (by omega)
theorem bv_min3 (x : Int32) : (if x < 3 then x else 3) = (if x ≤ 3 then x else 3) := by
  have e3 : (3 : Int32).toInt = 3 := rfl
  by_cases h : x < 3
  · rw [if_pos h, if_pos]
    rw [Int32.lt_iff_toInt_lt] at h
    rw [Int32.le_iff_toInt_le]
    omega
  · by_cases h2 : x ≤ 3
    · rw [if_neg h, if_pos h2]
      rw [Int32.lt_iff_toInt_lt] at h
      rw [Int32.le_iff_toInt_le] at h2
      apply Int32.toInt_inj.mp
      omega
    · rw [if_neg h, if_neg h2]
theorem bv_I_vn {n : Nat} {X : bv_X} (h : bv_I n X) (hn : n ≤ 1000) {j : Nat} (hj : j < 8) (h1 : X 9 j = 1) : bv_vn (X 0 0) (X 11 j) = bv_nt X j := by
  unfold bv_vn bv_nt
  rw [bv_I_ov h hn hj, bv_min3, if_neg (c := ¬ X 9 j = 1) (fun h2 => h2 h1)]
theorem bv_I_bd {n : Nat} {X : bv_X} (h : bv_I n X) {b : Int32} (hb : ¬ bv_bd X b = -1) : ∃ o, o < 30 ∧ bv_bd X b = nI o ∧ (bv_bd X b).toNatClampNeg = o ∧ X 4 o = b ∧ ¬ X 0 1 ≤ nI o := by
  obtain ⟨c, h1, h2⟩ := bv_I_cnt h
  rw [← bv_bd_c h2 h1] at hb ⊢
  obtain ⟨t, ht, e, -, e2⟩ := bv_bn_ix hb
  exact ⟨t, by omega, e, by rw [e]; exact nI_clamp (by omega), e2, by rw [h2]; exact nI_ge ht (by omega)⟩
