/-! ===== PURE: what the calls answer, over the rows of numbers ===== -/
abbrev bv_rg (v lo hi : Int32) : Prop := ¬ v < lo ∧ ¬ hi < v
def bJ (c : Prop) [Decidable c] : Int32 := if c then 2 else 0
theorem bJ_t {c : Prop} [Decidable c] (h : c) : bJ c = 2 := if_pos h
theorem bJ_f {c : Prop} [Decidable c] (h : ¬ c) : bJ c = 0 := if_neg h
theorem bJ_1 {c : Prop} [Decidable c] (h : ¬ bJ c = 0) : c := by
  by_cases q : c
  · exact q
  · exact absurd (bJ_f q) h
theorem bJ_0 {c : Prop} [Decidable c] (h : bJ c = 0) : ¬ c := by
  intro q
  rw [bJ_t q] at h
  exact absurd h (by decide)
theorem bv_nl {a b : Int32} (h : ¬ a < b) : b ≤ a := by
  rw [Int32.le_iff_toInt_le]
  rw [Int32.lt_iff_toInt_lt] at h
  omega
theorem bv_nlt {a b : Int32} (h : ¬ a ≤ b) : b < a := by
  rw [Int32.lt_iff_toInt_lt]
  rw [Int32.le_iff_toInt_le] at h
  omega
theorem bv_ln {a b : Int32} (h : a ≤ b) : ¬ b < a := by
  rw [Int32.lt_iff_toInt_lt]
  rw [Int32.le_iff_toInt_le] at h
  omega
theorem bv_ltn {a b : Int32} (h : a < b) : ¬ b ≤ a := by
  rw [Int32.le_iff_toInt_le]
  rw [Int32.lt_iff_toInt_lt] at h
  omega
theorem bv_ofN {x : Int32} {n : Nat} {y : Int32} (hn : n < 2 ^ 31) (h1 : ¬ x < 0) (hy : y = nI n) (h2 : ¬ y ≤ x) : ∃ j, j < n ∧ x = nI j := by
  obtain ⟨j, hj, e⟩ := nI_of h1
  subst e
  subst hy
  refine ⟨j, ?_, rfl⟩
  rcases Nat.lt_or_ge j n with h | h
  · exact h
  · exact absurd (nI_le h hj) h2
theorem bv_ofR {x : Int32} {n : Nat} {y : Int32} (hn : n < 2 ^ 31) (hy : y = nI n) (h : bv_rg x 0 y) : ∃ j, j < n + 1 ∧ x = nI j := by
  obtain ⟨h1, h2⟩ := h
  obtain ⟨j, hj, e⟩ := nI_of h1
  subst e
  subst hy
  refine ⟨j, ?_, rfl⟩
  rcases Nat.lt_or_ge j (n + 1) with h | h
  · exact h
  · exact absurd (nI_lt (show n < j by omega) hj) h2
theorem bv_of8 {x : Int32} (h : bv_rg x 0 7) : ∃ j, j < 8 ∧ x = nI j := bv_ofR (n := 7) (by decide) rfl h
theorem bv_of16 {x : Int32} (h : bv_rg x 0 15) : ∃ j, j < 16 ∧ x = nI j := bv_ofR (n := 15) (by decide) rfl h
theorem bv_in8 {j : Nat} (h : j < 8) : bv_rg (nI j) 0 7 := ⟨nI_pos (by omega), nI_nlt (a := 7) (b := j) (by omega) (by decide)⟩
theorem bv_in16 {j : Nat} (h : j < 16) : bv_rg (nI j) 0 15 := ⟨nI_pos (by omega), nI_nlt (a := 15) (b := j) (by omega) (by decide)⟩
theorem bv_cl {j n : Nat} (h : j < n) (hn : n < 2 ^ 31) : (nI j).toNatClampNeg = j := nI_clamp (Nat.lt_trans h hn)
/-- of the days -/
def bv_vo (d p : Int32) : Int32 := if 0 < d - p then d - p else 0
def bv_ov (d p : Int32) : Int32 := if d ≤ p then 0 else d - p
theorem bv_vo_ov {a b : Nat} (ha : a < 2 ^ 30) (hb : b < 2 ^ 30) : bv_vo (nI a) (nI b) = bv_ov (nI a) (nI b) := by
  unfold bv_vo bv_ov
  have e := pk_sub_toInt ha hb
  by_cases h : a ≤ b
  · rw [if_pos (nI_le h (by omega)), if_neg]
    intro h2
    rw [Int32.lt_iff_toInt_lt, e] at h2
    have : (0 : Int32).toInt = 0 := rfl
    omega
  · rw [if_neg (nI_ge (by omega) (by omega)), if_pos]
    rw [Int32.lt_iff_toInt_lt, e]
    have : (0 : Int32).toInt = 0 := rfl
    omega
def bv_vn (d p : Int32) : Int32 := if bv_vo d p / 30 < 3 then bv_vo d p / 30 else 3
/-- the order that binds: of the orders below n -/
def bv_bn (X : bv_X) (b : Int32) : Nat → Int32
  | 0 => -1
  | n + 1 => if ¬ X 8 n = 0 ∧ X 4 n = b ∧ (bv_bn X b n = -1 ∨ ¬ X 5 n < X 5 (bv_bn X b n).toNatClampNeg) then nI n else bv_bn X b n
theorem bv_bn_s (X : bv_X) (b : Int32) (n : Nat) : bv_bn X b (n + 1) = if ¬ X 8 n = 0 ∧ X 4 n = b ∧ (bv_bn X b n = -1 ∨ ¬ X 5 n < X 5 (bv_bn X b n).toNatClampNeg) then nI n else bv_bn X b n := rfl
theorem bv_bn_is (X : bv_X) (b : Int32) : ∀ n, bv_bn X b n = -1 ∨ ∃ t, t < n ∧ bv_bn X b n = nI t ∧ ¬ X 8 t = 0 ∧ X 4 t = b
  | 0 => Or.inl rfl
  | n + 1 => by
    rw [bv_bn_s]
    split
    · rename_i h
      exact Or.inr ⟨n, by omega, rfl, h.1, h.2.1⟩
    · rcases bv_bn_is X b n with h | ⟨t, h1, h2⟩
      · exact Or.inl h
      · exact Or.inr ⟨t, by omega, h2⟩
theorem bv_bn_ix {X : bv_X} {b : Int32} {n : Nat} (h : ¬ bv_bn X b n = -1) : ∃ t, t < n ∧ bv_bn X b n = nI t ∧ ¬ X 8 t = 0 ∧ X 4 t = b := (bv_bn_is X b n).resolve_left h
theorem bv_m1 {t : Nat} (h : t < 2 ^ 31) : ¬ nI t = -1 := by
  intro e
  have h1 := nI_toInt h
  rw [e] at h1
  have : (-1 : Int32).toInt = -1 := rfl
  omega
/-- has one of the proxies below n the day -/
def bv_px (P F T : Nat → Int32) (q d : Int32) : Nat → Bool
  | 0 => false
  | n + 1 => bv_px P F T q d n || decide (P n = q ∧ ¬ d < F n ∧ ¬ T n < d)
theorem bv_px_s (P F T : Nat → Int32) (q d : Int32) (n : Nat) : bv_px P F T q d (n + 1) = (bv_px P F T q d n || decide (P n = q ∧ ¬ d < F n ∧ ¬ T n < d)) := rfl
theorem bv_px_le {P F T : Nat → Int32} {q d : Int32} {n m : Nat} (h : bv_px P F T q d n = true) (hm : n ≤ m) : bv_px P F T q d m = true := by
  induction m with
  | zero =>
    have e : n = 0 := by omega
    subst e
    exact h
  | succ m ih =>
    by_cases e : n = m + 1
    · subst e
      exact h
    · rw [bv_px_s, ih (by omega)]
      rfl
theorem bv_px_c {P F T P' F' T' : Nat → Int32} {q d : Int32} : ∀ {n : Nat}, (∀ i, i < n → P i = P' i ∧ F i = F' i ∧ T i = T' i) → bv_px P F T q d n = bv_px P' F' T' q d n
  | 0, _ => rfl
  | n + 1, h => by
    rw [bv_px_s, bv_px_s, bv_px_c (fun i hi => h i (by omega)), (h n (by omega)).1, (h n (by omega)).2.1, (h n (by omega)).2.2]
/-- the orders for a box, below n, ended -/
def bv_fr (X : bv_X) (b : Int32) (n : Nat) : bv_X := fun r i => if r = 8 ∧ i < n ∧ X 4 i = b then 0 else X r i
theorem bv_X_ext {X Y : bv_X} (h : ∀ r i, X r i = Y r i) : X = Y := funext fun r => funext fun i => h r i
theorem bv_up_at (X : bv_X) (r i : Nat) (v : Int32) (a b : Nat) : bv_up X r i v a b = if a = r ∧ b = i then v else X a b := by
  by_cases h : a = r ∧ b = i
  · obtain ⟨rfl, rfl⟩ := h
    rw [if_pos ⟨rfl, rfl⟩, bv_up_ss]
  · rw [if_neg h, bv_up_o _ h]
theorem bv_fr_0 (X : bv_X) (b : Int32) : bv_fr X b 0 = X := bv_X_ext fun r i => if_neg (by omega)
theorem bv_fr_y {X : bv_X} {b : Int32} {n : Nat} (h : X 4 n = b) : bv_up (bv_fr X b n) 8 n 0 = bv_fr X b (n + 1) := by
  apply bv_X_ext
  intro r i
  rw [bv_up_at]
  unfold bv_fr
  by_cases h1 : r = 8 ∧ i = n
  · obtain ⟨rfl, rfl⟩ := h1
    rw [if_pos ⟨rfl, rfl⟩, if_pos ⟨rfl, by omega, h⟩]
  · rw [if_neg h1]
    by_cases h2 : r = 8 ∧ i < n ∧ X 4 i = b
    · rw [if_pos h2, if_pos ⟨h2.1, by omega, h2.2.2⟩]
    · rw [if_neg h2, if_neg]
      intro h3
      have h4 : i ≠ n := fun h4 => h1 ⟨h3.1, h4⟩
      exact h2 ⟨h3.1, by omega, h3.2.2⟩
theorem bv_fr_n {X : bv_X} {b : Int32} {n : Nat} (h : ¬ X 4 n = b) : bv_fr X b n = bv_fr X b (n + 1) := by
  apply bv_X_ext
  intro r i
  unfold bv_fr
  by_cases h2 : r = 8 ∧ i < n ∧ X 4 i = b
  · rw [if_pos h2, if_pos ⟨h2.1, by omega, h2.2.2⟩]
  · rw [if_neg h2, if_neg]
    intro h3
    have h4 : i ≠ n := fun h4 => h (by rw [← h4]; exact h3.2.2)
    exact h2 ⟨h3.1, by omega, h3.2.2⟩
theorem bv_fr_ne {X : bv_X} {b : Int32} {n r : Nat} (h : r ≠ 8) : bv_fr X b n r = X r := funext fun i => if_neg (fun h2 => h h2.1)
/-- the rows 'java.lang' of a throw -/
theorem bv_at98_2 : ∀ w ∈ (vx_atS RX2 98 "java/lang/IllegalArgumentException" ["java/lang/RuntimeException", "java/lang/Exception"]).filter (fun w => !goodWord w), w ∈ bv_nw := by decide +kernel
theorem bv_at98_g : ∀ w ∈ Cond.classLink RX2 94 "java/lang/IllegalArgumentException" :: Cond.initialized "java/lang/IllegalArgumentException" :: vx_atS RX2 98 "java/lang/IllegalArgumentException" ["java/lang/RuntimeException", "java/lang/Exception"], vx_ot w = true := by decide +kernel
theorem bv_at47_2 : ∀ w ∈ (vx_atS RX2 47 "java/lang/IllegalStateException" ["java/lang/RuntimeException", "java/lang/Exception"]).filter (fun w => !goodWord w), w ∈ bv_nw := by decide +kernel
theorem bv_at47_g : ∀ w ∈ Cond.classLink RX2 43 "java/lang/IllegalStateException" :: Cond.initialized "java/lang/IllegalStateException" :: vx_atS RX2 47 "java/lang/IllegalStateException" ["java/lang/RuntimeException", "java/lang/Exception"], vx_ot w = true := by decide +kernel
theorem bv_at181_2 : ∀ w ∈ (vx_atS RX2 181 "java/lang/IndexOutOfBoundsException" ["java/lang/RuntimeException", "java/lang/Exception"]).filter (fun w => !goodWord w), w ∈ bv_nw := by decide +kernel
theorem bv_at181_g : ∀ w ∈ Cond.classLink RX2 177 "java/lang/IndexOutOfBoundsException" :: Cond.initialized "java/lang/IndexOutOfBoundsException" :: vx_atS RX2 181 "java/lang/IndexOutOfBoundsException" ["java/lang/RuntimeException", "java/lang/Exception"], vx_ot w = true := by decide +kernel
/-- a loop: what it has made is told by how often it went round -/
theorem bv_loop {p : Program} {l : Launch} {e : Env} {R : Room} {s : State} {m : MethodId} {args : Array Value} {below : List Frame} {meth : Method} {c : Code} {cells slots : Nat} {Q : State → Prop} {G : bv_G} {z : bv_Z} {nL head : Nat} (N : Nat) (Sf Mf : Nat → bv_X) (lv : Nat → List (Nat × Value)) (Iv : Nat → Prop)
    (body : ∀ i, i ≤ N → Iv i → (i < N → Iv (i + 1) → ∀ (H : Heap) (locs : List Loc) (ls : Array Slot), bv_H G (Sf (i + 1)) (Mf (i + 1)) z H → va_S (bv_A G) s.heap H locs → lv_has ls nL (lv (i + 1)) → W p l e R s m args below meth c H locs cells slots Q (F0 m head ls [])) → ∀ (H : Heap) (locs : List Loc) (ls : Array Slot), bv_H G (Sf i) (Mf i) z H → va_S (bv_A G) s.heap H locs → lv_has ls nL (lv i) → W p l e R s m args below meth c H locs cells slots Q (F0 m head ls []))
    (h0 : Iv 0) : ∀ (H : Heap) (locs : List Loc) (ls : Array Slot), bv_H G (Sf 0) (Mf 0) z H → va_S (bv_A G) s.heap H locs → lv_has ls nL (lv 0) → W p l e R s m args below meth c H locs cells slots Q (F0 m head ls []) := by
  have key : ∀ (d i : Nat), i + d = N → Iv i → ∀ (H : Heap) (locs : List Loc) (ls : Array Slot), bv_H G (Sf i) (Mf i) z H → va_S (bv_A G) s.heap H locs → lv_has ls nL (lv i) → W p l e R s m args below meth c H locs cells slots Q (F0 m head ls []) := by
    intro d
    induction d with
    | zero => exact fun i hi hv => body i (by omega) hv (fun h => absurd h (by omega))
    | succ d ih => exact fun i hi hv => body i (by omega) hv (fun _ hv2 => ih (i + 1) (by omega) hv2)
  exact key N 0 (by omega) h0
