/-! ===== THE WORLD: the vault's 43 cells (0 the vault, 1 its row of boxes, 2 the order book, 3..5 dead, heirs, refused, 6..10 the book's rows, 11.. the boxes, 19.., 27.., 35.. their rows), the model's 19 (43 the model, 44..61 its rows), 62 the law's row of one long. What they hold: rows of numbers, S the vault's, M the model's, z what was thrown and the law's long. Rows: 0 (0 the day, 1 the orders), 1 dead, 2 heirs, 3 refusals, 4 box of an order, 5 court, 6 kind, 7 person, 8 holds, 9 state, 10 holder, 11 paid, 12 owed, 13 entries, 14 looked, 15 proxies; of the vault 16 + j, 24 + j, 32 + j the proxies of box j, of the model 16, 17, 18 all of them ===== -/
abbrev bv_X : Type := Nat → Nat → Int32
abbrev bv_Z : Type := Int32 × Int64
abbrev bv_G : Type := va_G × (Nat → Nat) × (Nat → ClassId) × Nat
def bv_D (G : bv_G) : va_G := G.1
def bv_a (G : bv_G) : Nat → Nat := G.2.1
def bv_t (G : bv_G) : Nat → ClassId := G.2.2.1
def bv_n (G : bv_G) : Nat := G.2.2.2
def bv_A (G : bv_G) : Nat → Prop := fun q => bv_n G ≤ q
def bv_up (x : bv_X) (r i : Nat) (v : Int32) : bv_X := fun a => if a = r then upd (x r) i v else x a
theorem bv_up_s (x : bv_X) (r i : Nat) (v : Int32) : bv_up x r i v r = upd (x r) i v := if_pos rfl
theorem bv_up_n (x : bv_X) {r a : Nat} (i : Nat) (v : Int32) (h : a ≠ r) : bv_up x r i v a = x a := if_neg h
theorem bv_up_ss (x : bv_X) (r i : Nat) (v : Int32) : bv_up x r i v r i = v := by rw [bv_up_s]; exact if_pos rfl
theorem bv_up_sn (x : bv_X) (r : Nat) {i j : Nat} (v : Int32) (h : j ≠ i) : bv_up x r i v r j = x r j := by rw [bv_up_s]; exact if_neg h
/-- the model's rows: which, how long, of which kind -/
def bv_mr (k : Nat) : Nat := [1, 2, 3, 9, 10, 11, 13, 14, 12, 15, 16, 17, 18, 4, 5, 6, 7, 8].getD (k - 44) 0
def bv_ml (k : Nat) : Nat := [16, 16, 16, 8, 8, 8, 8, 8, 8, 8, 40, 40, 40, 30, 30, 30, 30, 30].getD (k - 44) 0
def bv_mt (k : Nat) : Nat := [1, 0, 0, 0, 0, 0, 0, 1, 0, 0, 0, 0, 0, 0, 0, 0, 0, 1].getD (k - 44) 0
def bv_E (G : bv_G) (S M : bv_X) (z : bv_Z) (k : Nat) : va_E :=
  if k = 0 then .inr (2, [.ref (bv_a G 1), .ref (bv_a G 2), .ref (bv_a G 3), .ref (bv_a G 4), .ref (bv_a G 5), .int (S 0 0)])
  else if k = 1 then .inl (bv_t G 2, 8, .inr (.inr (.inr (.inr (fun j => some (bv_a G (11 + j)))))))
  else if k = 2 then .inr (1, [.int (S 0 1), .ref (bv_a G 6), .ref (bv_a G 7), .ref (bv_a G 8), .ref (bv_a G 9), .ref (bv_a G 10)])
  else if k < 11 then .inl (bv_t G (if k = 3 ∨ k = 10 then 1 else 0), (if k < 6 then 16 else 30), .inl (S (k - 2)))
  else if k < 19 then .inr (0, [.int (S 9 (k - 11)), .int (S 10 (k - 11)), .int (S 11 (k - 11)), .int (S 12 (k - 11)), .int (S 13 (k - 11)), .int (S 14 (k - 11)), .int (S 15 (k - 11)), .ref (bv_a G (k + 8)), .ref (bv_a G (k + 16)), .ref (bv_a G (k + 24))])
  else if k < 43 then .inl (bv_t G 0, 5, .inl (S (k - 3)))
  else if k = 43 then .inr (3, [.int z.1, .int (M 0 0), .ref (bv_a G 44), .ref (bv_a G 45), .ref (bv_a G 46), .ref (bv_a G 47), .ref (bv_a G 48), .ref (bv_a G 49), .ref (bv_a G 50), .ref (bv_a G 51), .ref (bv_a G 52), .ref (bv_a G 53), .ref (bv_a G 54), .ref (bv_a G 55), .ref (bv_a G 56), .int (M 0 1), .ref (bv_a G 57), .ref (bv_a G 58), .ref (bv_a G 59), .ref (bv_a G 60), .ref (bv_a G 61)])
  else if k < 62 then .inl (bv_t G (bv_mt k), bv_ml k, .inl (M (bv_mr k)))
  else .inl (bv_t G 3, 1, .inr (.inl (fun _ => z.2)))
def bv_w (G : bv_G) (S M : bv_X) (z : bv_Z) : va_W := (List.range 63).map (fun k => (bv_a G k, bv_E G S M z k))
theorem bv_get {G : bv_G} {S M : bv_X} {z : bv_Z} {k : Nat} (hk : k < 63) : (bv_w G S M z)[k]? = some (bv_a G k, bv_E G S M z k) := by
  unfold bv_w
  rw [List.getElem?_map, List.getElem?_range hk]
  rfl
theorem bv_w_len {G : bv_G} {S M : bv_X} {z : bv_Z} : (bv_w G S M z).length = 63 := by simp [bv_w]
theorem bv_w_set {G : bv_G} {S M S' M' : bv_X} {z z' : bv_Z} {k : Nat} {e : va_E} (hk : k < 63) (he : bv_E G S' M' z' k = e) (h : ∀ i, i < 63 → i ≠ k → bv_E G S' M' z' i = bv_E G S M z i) : (bv_w G S M z).set k (bv_a G k, e) = bv_w G S' M' z' := by
  apply List.ext_getElem?
  intro i
  by_cases hi : i < 63
  · by_cases h2 : i = k
    · subst h2
      rw [List.getElem?_set_self (by rw [bv_w_len]; exact hi), bv_get hi, he]
    · rw [List.getElem?_set_ne (Ne.symm h2), bv_get hi, bv_get hi, h i hi h2]
  · rw [List.getElem?_eq_none (by rw [List.length_set, bv_w_len]; omega), List.getElem?_eq_none (by rw [bv_w_len]; omega)]
/-- the vault's part of a cell -/
theorem bv_eS {G : bv_G} {S S' M : bv_X} {z : bv_Z} {k : Nat} (h0 : k = 0 → S' 0 0 = S 0 0) (h2 : k = 2 → S' 0 1 = S 0 1) (hr : 3 ≤ k → k < 11 → S' (k - 2) = S (k - 2)) (hb : 11 ≤ k → k < 19 → ∀ r, 9 ≤ r → r < 16 → S' r (k - 11) = S r (k - 11)) (ha : 19 ≤ k → k < 43 → S' (k - 3) = S (k - 3)) : bv_E G S' M z k = bv_E G S M z k := by
  unfold bv_E
  by_cases q0 : k = 0
  · rw [if_pos q0, if_pos q0, h0 q0]
  rw [if_neg q0, if_neg q0]
  by_cases q1 : k = 1
  · rw [if_pos q1, if_pos q1]
  rw [if_neg q1, if_neg q1]
  by_cases q2 : k = 2
  · rw [if_pos q2, if_pos q2, h2 q2]
  rw [if_neg q2, if_neg q2]
  by_cases q3 : k < 11
  · rw [if_pos q3, if_pos q3, hr (by omega) q3]
  rw [if_neg q3, if_neg q3]
  by_cases q4 : k < 19
  · have hb := hb (by omega) q4
    rw [if_pos q4, if_pos q4, hb 9 (by omega) (by omega), hb 10 (by omega) (by omega), hb 11 (by omega) (by omega), hb 12 (by omega) (by omega), hb 13 (by omega) (by omega), hb 14 (by omega) (by omega), hb 15 (by omega) (by omega)]
  rw [if_neg q4, if_neg q4]
  by_cases q5 : k < 43
  · rw [if_pos q5, if_pos q5, ha (by omega) q5]
  rw [if_neg q5, if_neg q5]
/-- the model's part of a cell, and the rest -/
theorem bv_eM {G : bv_G} {S M M' : bv_X} {z z' : bv_Z} {k : Nat} (h43 : k = 43 → M' 0 0 = M 0 0 ∧ M' 0 1 = M 0 1 ∧ z'.1 = z.1) (ha : 44 ≤ k → k < 62 → M' (bv_mr k) = M (bv_mr k)) (hz : 62 ≤ k → z'.2 = z.2) : bv_E G S M' z' k = bv_E G S M z k := by
  unfold bv_E
  by_cases q0 : k = 0
  · rw [if_pos q0, if_pos q0]
  rw [if_neg q0, if_neg q0]
  by_cases q1 : k = 1
  · rw [if_pos q1, if_pos q1]
  rw [if_neg q1, if_neg q1]
  by_cases q2 : k = 2
  · rw [if_pos q2, if_pos q2]
  rw [if_neg q2, if_neg q2]
  by_cases q3 : k < 11
  · rw [if_pos q3, if_pos q3]
  rw [if_neg q3, if_neg q3]
  by_cases q4 : k < 19
  · rw [if_pos q4, if_pos q4]
  rw [if_neg q4, if_neg q4]
  by_cases q5 : k < 43
  · rw [if_pos q5, if_pos q5]
  rw [if_neg q5, if_neg q5]
  by_cases q6 : k = 43
  · obtain ⟨e1, e2, e3⟩ := h43 q6
    rw [if_pos q6, if_pos q6, e1, e2, e3]
  rw [if_neg q6, if_neg q6]
  by_cases q7 : k < 62
  · rw [if_pos q7, if_pos q7, ha (by omega) q7]
  rw [if_neg q7, if_neg q7, hz (by omega)]
theorem bv_up_o (x : bv_X) {r i a j : Nat} {v : Int32} (h : ¬ (a = r ∧ j = i)) : bv_up x r i v a j = x a j := by
  by_cases h1 : a = r
  · subst h1
    exact bv_up_sn _ _ _ (fun h2 => h ⟨rfl, h2⟩)
  · rw [bv_up_n _ _ _ h1]
theorem bv_mr0 {k : Nat} (h1 : 44 ≤ k) (h2 : k < 62) : bv_mr k ≠ 0 := by
  have h : ∀ k, k < 62 → 44 ≤ k → bv_mr k ≠ 0 := by decide
  exact h k h2 h1
theorem bv_mrk {t k : Nat} (h1 : 44 ≤ t) (h2 : t < 62) (h3 : 44 ≤ k) (h4 : k < 62) (hn : t ≠ k) : bv_mr t ≠ bv_mr k := by
  have h : ∀ a, a < 18 → ∀ b, b < 18 → a ≠ b → bv_mr (44 + a) ≠ bv_mr (44 + b) := by decide
  have h5 := h (t - 44) (by omega) (k - 44) (by omega) (by omega)
  rwa [show 44 + (t - 44) = t by omega, show 44 + (k - 44) = k by omega] at h5
theorem bv_c0 (G : bv_G) (S M : bv_X) (z : bv_Z) : (bv_w G S M z)[0]? = some (bv_a G 0, .inr (2, [.ref (bv_a G 1), .ref (bv_a G 2), .ref (bv_a G 3), .ref (bv_a G 4), .ref (bv_a G 5), .int (S 0 0)])) := bv_get (by decide)
theorem bv_c1 (G : bv_G) (S M : bv_X) (z : bv_Z) : (bv_w G S M z)[1]? = some (bv_a G 1, .inl (bv_t G 2, 8, .inr (.inr (.inr (.inr (fun j => some (bv_a G (11 + j)))))))) := bv_get (by decide)
theorem bv_c2 (G : bv_G) (S M : bv_X) (z : bv_Z) : (bv_w G S M z)[2]? = some (bv_a G 2, .inr (1, [.int (S 0 1), .ref (bv_a G 6), .ref (bv_a G 7), .ref (bv_a G 8), .ref (bv_a G 9), .ref (bv_a G 10)])) := bv_get (by decide)
theorem bv_c3 (G : bv_G) (S M : bv_X) (z : bv_Z) : (bv_w G S M z)[3]? = some (bv_a G 3, .inl (bv_t G 1, 16, .inl (S 1))) := bv_get (by decide)
theorem bv_c4 (G : bv_G) (S M : bv_X) (z : bv_Z) : (bv_w G S M z)[4]? = some (bv_a G 4, .inl (bv_t G 0, 16, .inl (S 2))) := bv_get (by decide)
theorem bv_c5 (G : bv_G) (S M : bv_X) (z : bv_Z) : (bv_w G S M z)[5]? = some (bv_a G 5, .inl (bv_t G 0, 16, .inl (S 3))) := bv_get (by decide)
theorem bv_c6 (G : bv_G) (S M : bv_X) (z : bv_Z) : (bv_w G S M z)[6]? = some (bv_a G 6, .inl (bv_t G 0, 30, .inl (S 4))) := bv_get (by decide)
theorem bv_c7 (G : bv_G) (S M : bv_X) (z : bv_Z) : (bv_w G S M z)[7]? = some (bv_a G 7, .inl (bv_t G 0, 30, .inl (S 5))) := bv_get (by decide)
theorem bv_c8 (G : bv_G) (S M : bv_X) (z : bv_Z) : (bv_w G S M z)[8]? = some (bv_a G 8, .inl (bv_t G 0, 30, .inl (S 6))) := bv_get (by decide)
theorem bv_c9 (G : bv_G) (S M : bv_X) (z : bv_Z) : (bv_w G S M z)[9]? = some (bv_a G 9, .inl (bv_t G 0, 30, .inl (S 7))) := bv_get (by decide)
theorem bv_c10 (G : bv_G) (S M : bv_X) (z : bv_Z) : (bv_w G S M z)[10]? = some (bv_a G 10, .inl (bv_t G 1, 30, .inl (S 8))) := bv_get (by decide)
theorem bv_eB (G : bv_G) (S M : bv_X) (z : bv_Z) {j : Nat} (hj : j < 8) : bv_E G S M z (11 + j) = .inr (0, [.int (S 9 j), .int (S 10 j), .int (S 11 j), .int (S 12 j), .int (S 13 j), .int (S 14 j), .int (S 15 j), .ref (bv_a G (19 + j)), .ref (bv_a G (27 + j)), .ref (bv_a G (35 + j))]) := by
  unfold bv_E
  rw [if_neg (by omega), if_neg (by omega), if_neg (by omega), if_neg (by omega), if_pos (by omega), show 11 + j - 11 = j by omega, show 11 + j + 8 = 19 + j by omega, show 11 + j + 16 = 27 + j by omega, show 11 + j + 24 = 35 + j by omega]
theorem bv_cB (G : bv_G) (S M : bv_X) (z : bv_Z) {j : Nat} (hj : j < 8) : (bv_w G S M z)[11 + j]? = some (bv_a G (11 + j), .inr (0, [.int (S 9 j), .int (S 10 j), .int (S 11 j), .int (S 12 j), .int (S 13 j), .int (S 14 j), .int (S 15 j), .ref (bv_a G (19 + j)), .ref (bv_a G (27 + j)), .ref (bv_a G (35 + j))])) := (bv_get (by omega)).trans (congrArg (fun e => some (bv_a G (11 + j), e)) (bv_eB G S M z hj))
theorem bv_eP19 (G : bv_G) (S M : bv_X) (z : bv_Z) {j : Nat} (hj : j < 8) : bv_E G S M z (19 + j) = .inl (bv_t G 0, 5, .inl (S (16 + j))) := by
  unfold bv_E
  rw [if_neg (by omega), if_neg (by omega), if_neg (by omega), if_neg (by omega), if_neg (by omega), if_pos (by omega), show 19 + j - 3 = 16 + j by omega]
theorem bv_cP19 (G : bv_G) (S M : bv_X) (z : bv_Z) {j : Nat} (hj : j < 8) : (bv_w G S M z)[19 + j]? = some (bv_a G (19 + j), .inl (bv_t G 0, 5, .inl (S (16 + j)))) := (bv_get (by omega)).trans (congrArg (fun e => some (bv_a G (19 + j), e)) (bv_eP19 G S M z hj))
theorem bv_eP27 (G : bv_G) (S M : bv_X) (z : bv_Z) {j : Nat} (hj : j < 8) : bv_E G S M z (27 + j) = .inl (bv_t G 0, 5, .inl (S (24 + j))) := by
  unfold bv_E
  rw [if_neg (by omega), if_neg (by omega), if_neg (by omega), if_neg (by omega), if_neg (by omega), if_pos (by omega), show 27 + j - 3 = 24 + j by omega]
theorem bv_cP27 (G : bv_G) (S M : bv_X) (z : bv_Z) {j : Nat} (hj : j < 8) : (bv_w G S M z)[27 + j]? = some (bv_a G (27 + j), .inl (bv_t G 0, 5, .inl (S (24 + j)))) := (bv_get (by omega)).trans (congrArg (fun e => some (bv_a G (27 + j), e)) (bv_eP27 G S M z hj))
theorem bv_eP35 (G : bv_G) (S M : bv_X) (z : bv_Z) {j : Nat} (hj : j < 8) : bv_E G S M z (35 + j) = .inl (bv_t G 0, 5, .inl (S (32 + j))) := by
  unfold bv_E
  rw [if_neg (by omega), if_neg (by omega), if_neg (by omega), if_neg (by omega), if_neg (by omega), if_pos (by omega), show 35 + j - 3 = 32 + j by omega]
theorem bv_cP35 (G : bv_G) (S M : bv_X) (z : bv_Z) {j : Nat} (hj : j < 8) : (bv_w G S M z)[35 + j]? = some (bv_a G (35 + j), .inl (bv_t G 0, 5, .inl (S (32 + j)))) := (bv_get (by omega)).trans (congrArg (fun e => some (bv_a G (35 + j), e)) (bv_eP35 G S M z hj))
theorem bv_c43 (G : bv_G) (S M : bv_X) (z : bv_Z) : (bv_w G S M z)[43]? = some (bv_a G 43, .inr (3, [.int z.1, .int (M 0 0), .ref (bv_a G 44), .ref (bv_a G 45), .ref (bv_a G 46), .ref (bv_a G 47), .ref (bv_a G 48), .ref (bv_a G 49), .ref (bv_a G 50), .ref (bv_a G 51), .ref (bv_a G 52), .ref (bv_a G 53), .ref (bv_a G 54), .ref (bv_a G 55), .ref (bv_a G 56), .int (M 0 1), .ref (bv_a G 57), .ref (bv_a G 58), .ref (bv_a G 59), .ref (bv_a G 60), .ref (bv_a G 61)])) := bv_get (by decide)
theorem bv_c44 (G : bv_G) (S M : bv_X) (z : bv_Z) : (bv_w G S M z)[44]? = some (bv_a G 44, .inl (bv_t G 1, 16, .inl (M 1))) := bv_get (by decide)
theorem bv_c45 (G : bv_G) (S M : bv_X) (z : bv_Z) : (bv_w G S M z)[45]? = some (bv_a G 45, .inl (bv_t G 0, 16, .inl (M 2))) := bv_get (by decide)
theorem bv_c46 (G : bv_G) (S M : bv_X) (z : bv_Z) : (bv_w G S M z)[46]? = some (bv_a G 46, .inl (bv_t G 0, 16, .inl (M 3))) := bv_get (by decide)
theorem bv_c47 (G : bv_G) (S M : bv_X) (z : bv_Z) : (bv_w G S M z)[47]? = some (bv_a G 47, .inl (bv_t G 0, 8, .inl (M 9))) := bv_get (by decide)
theorem bv_c48 (G : bv_G) (S M : bv_X) (z : bv_Z) : (bv_w G S M z)[48]? = some (bv_a G 48, .inl (bv_t G 0, 8, .inl (M 10))) := bv_get (by decide)
theorem bv_c49 (G : bv_G) (S M : bv_X) (z : bv_Z) : (bv_w G S M z)[49]? = some (bv_a G 49, .inl (bv_t G 0, 8, .inl (M 11))) := bv_get (by decide)
theorem bv_c50 (G : bv_G) (S M : bv_X) (z : bv_Z) : (bv_w G S M z)[50]? = some (bv_a G 50, .inl (bv_t G 0, 8, .inl (M 13))) := bv_get (by decide)
theorem bv_c51 (G : bv_G) (S M : bv_X) (z : bv_Z) : (bv_w G S M z)[51]? = some (bv_a G 51, .inl (bv_t G 1, 8, .inl (M 14))) := bv_get (by decide)
theorem bv_c52 (G : bv_G) (S M : bv_X) (z : bv_Z) : (bv_w G S M z)[52]? = some (bv_a G 52, .inl (bv_t G 0, 8, .inl (M 12))) := bv_get (by decide)
theorem bv_c53 (G : bv_G) (S M : bv_X) (z : bv_Z) : (bv_w G S M z)[53]? = some (bv_a G 53, .inl (bv_t G 0, 8, .inl (M 15))) := bv_get (by decide)
theorem bv_c54 (G : bv_G) (S M : bv_X) (z : bv_Z) : (bv_w G S M z)[54]? = some (bv_a G 54, .inl (bv_t G 0, 40, .inl (M 16))) := bv_get (by decide)
theorem bv_c55 (G : bv_G) (S M : bv_X) (z : bv_Z) : (bv_w G S M z)[55]? = some (bv_a G 55, .inl (bv_t G 0, 40, .inl (M 17))) := bv_get (by decide)
theorem bv_c56 (G : bv_G) (S M : bv_X) (z : bv_Z) : (bv_w G S M z)[56]? = some (bv_a G 56, .inl (bv_t G 0, 40, .inl (M 18))) := bv_get (by decide)
theorem bv_c57 (G : bv_G) (S M : bv_X) (z : bv_Z) : (bv_w G S M z)[57]? = some (bv_a G 57, .inl (bv_t G 0, 30, .inl (M 4))) := bv_get (by decide)
theorem bv_c58 (G : bv_G) (S M : bv_X) (z : bv_Z) : (bv_w G S M z)[58]? = some (bv_a G 58, .inl (bv_t G 0, 30, .inl (M 5))) := bv_get (by decide)
theorem bv_c59 (G : bv_G) (S M : bv_X) (z : bv_Z) : (bv_w G S M z)[59]? = some (bv_a G 59, .inl (bv_t G 0, 30, .inl (M 6))) := bv_get (by decide)
theorem bv_c60 (G : bv_G) (S M : bv_X) (z : bv_Z) : (bv_w G S M z)[60]? = some (bv_a G 60, .inl (bv_t G 0, 30, .inl (M 7))) := bv_get (by decide)
theorem bv_c61 (G : bv_G) (S M : bv_X) (z : bv_Z) : (bv_w G S M z)[61]? = some (bv_a G 61, .inl (bv_t G 1, 30, .inl (M 8))) := bv_get (by decide)
theorem bv_c62 (G : bv_G) (S M : bv_X) (z : bv_Z) : (bv_w G S M z)[62]? = some (bv_a G 62, .inl (bv_t G 3, 1, .inr (.inl (fun _ => z.2)))) := bv_get (by decide)
theorem bv_s0 (G : bv_G) (S M : bv_X) (z : bv_Z) (v : Int32) : (bv_w G S M z).set 0 (bv_a G 0, .inr (2, [.ref (bv_a G 1), .ref (bv_a G 2), .ref (bv_a G 3), .ref (bv_a G 4), .ref (bv_a G 5), .int v])) = bv_w G (bv_up S 0 0 v) M z := bv_w_set (by omega) rfl (fun t ht hn => bv_eS (fun h => absurd h hn) (fun _ => bv_up_sn _ _ _ (by omega)) (fun _ _ => bv_up_n _ _ _ (by omega)) (fun _ _ r _ _ => by rw [bv_up_n _ _ _ (by omega)]) (fun _ _ => bv_up_n _ _ _ (by omega)))
theorem bv_s2 (G : bv_G) (S M : bv_X) (z : bv_Z) (v : Int32) : (bv_w G S M z).set 2 (bv_a G 2, .inr (1, [.int v, .ref (bv_a G 6), .ref (bv_a G 7), .ref (bv_a G 8), .ref (bv_a G 9), .ref (bv_a G 10)])) = bv_w G (bv_up S 0 1 v) M z := bv_w_set (by omega) rfl (fun t ht hn => bv_eS (fun _ => bv_up_sn _ _ _ (by omega)) (fun h => absurd h hn) (fun _ _ => bv_up_n _ _ _ (by omega)) (fun _ _ r _ _ => by rw [bv_up_n _ _ _ (by omega)]) (fun _ _ => bv_up_n _ _ _ (by omega)))
theorem bv_s3 (G : bv_G) (S M : bv_X) (z : bv_Z) (i : Nat) (v : Int32) : (bv_w G S M z).set 3 (bv_a G 3, .inl (bv_t G 1, 16, .inl (upd (S 1) i v))) = bv_w G (bv_up S 1 i v) M z := bv_w_set (by omega) rfl (fun t ht hn => bv_eS (fun _ => by rw [bv_up_n _ _ _ (by omega)]) (fun _ => by rw [bv_up_n _ _ _ (by omega)]) (fun _ _ => bv_up_n _ _ _ (by omega)) (fun _ _ r _ _ => by rw [bv_up_n _ _ _ (by omega)]) (fun _ _ => bv_up_n _ _ _ (by omega)))
theorem bv_s4 (G : bv_G) (S M : bv_X) (z : bv_Z) (i : Nat) (v : Int32) : (bv_w G S M z).set 4 (bv_a G 4, .inl (bv_t G 0, 16, .inl (upd (S 2) i v))) = bv_w G (bv_up S 2 i v) M z := bv_w_set (by omega) rfl (fun t ht hn => bv_eS (fun _ => by rw [bv_up_n _ _ _ (by omega)]) (fun _ => by rw [bv_up_n _ _ _ (by omega)]) (fun _ _ => bv_up_n _ _ _ (by omega)) (fun _ _ r _ _ => by rw [bv_up_n _ _ _ (by omega)]) (fun _ _ => bv_up_n _ _ _ (by omega)))
theorem bv_s5 (G : bv_G) (S M : bv_X) (z : bv_Z) (i : Nat) (v : Int32) : (bv_w G S M z).set 5 (bv_a G 5, .inl (bv_t G 0, 16, .inl (upd (S 3) i v))) = bv_w G (bv_up S 3 i v) M z := bv_w_set (by omega) rfl (fun t ht hn => bv_eS (fun _ => by rw [bv_up_n _ _ _ (by omega)]) (fun _ => by rw [bv_up_n _ _ _ (by omega)]) (fun _ _ => bv_up_n _ _ _ (by omega)) (fun _ _ r _ _ => by rw [bv_up_n _ _ _ (by omega)]) (fun _ _ => bv_up_n _ _ _ (by omega)))
theorem bv_s6 (G : bv_G) (S M : bv_X) (z : bv_Z) (i : Nat) (v : Int32) : (bv_w G S M z).set 6 (bv_a G 6, .inl (bv_t G 0, 30, .inl (upd (S 4) i v))) = bv_w G (bv_up S 4 i v) M z := bv_w_set (by omega) rfl (fun t ht hn => bv_eS (fun _ => by rw [bv_up_n _ _ _ (by omega)]) (fun _ => by rw [bv_up_n _ _ _ (by omega)]) (fun _ _ => bv_up_n _ _ _ (by omega)) (fun _ _ r _ _ => by rw [bv_up_n _ _ _ (by omega)]) (fun _ _ => bv_up_n _ _ _ (by omega)))
theorem bv_s7 (G : bv_G) (S M : bv_X) (z : bv_Z) (i : Nat) (v : Int32) : (bv_w G S M z).set 7 (bv_a G 7, .inl (bv_t G 0, 30, .inl (upd (S 5) i v))) = bv_w G (bv_up S 5 i v) M z := bv_w_set (by omega) rfl (fun t ht hn => bv_eS (fun _ => by rw [bv_up_n _ _ _ (by omega)]) (fun _ => by rw [bv_up_n _ _ _ (by omega)]) (fun _ _ => bv_up_n _ _ _ (by omega)) (fun _ _ r _ _ => by rw [bv_up_n _ _ _ (by omega)]) (fun _ _ => bv_up_n _ _ _ (by omega)))
theorem bv_s8 (G : bv_G) (S M : bv_X) (z : bv_Z) (i : Nat) (v : Int32) : (bv_w G S M z).set 8 (bv_a G 8, .inl (bv_t G 0, 30, .inl (upd (S 6) i v))) = bv_w G (bv_up S 6 i v) M z := bv_w_set (by omega) rfl (fun t ht hn => bv_eS (fun _ => by rw [bv_up_n _ _ _ (by omega)]) (fun _ => by rw [bv_up_n _ _ _ (by omega)]) (fun _ _ => bv_up_n _ _ _ (by omega)) (fun _ _ r _ _ => by rw [bv_up_n _ _ _ (by omega)]) (fun _ _ => bv_up_n _ _ _ (by omega)))
theorem bv_s9 (G : bv_G) (S M : bv_X) (z : bv_Z) (i : Nat) (v : Int32) : (bv_w G S M z).set 9 (bv_a G 9, .inl (bv_t G 0, 30, .inl (upd (S 7) i v))) = bv_w G (bv_up S 7 i v) M z := bv_w_set (by omega) rfl (fun t ht hn => bv_eS (fun _ => by rw [bv_up_n _ _ _ (by omega)]) (fun _ => by rw [bv_up_n _ _ _ (by omega)]) (fun _ _ => bv_up_n _ _ _ (by omega)) (fun _ _ r _ _ => by rw [bv_up_n _ _ _ (by omega)]) (fun _ _ => bv_up_n _ _ _ (by omega)))
theorem bv_s10 (G : bv_G) (S M : bv_X) (z : bv_Z) (i : Nat) (v : Int32) : (bv_w G S M z).set 10 (bv_a G 10, .inl (bv_t G 1, 30, .inl (upd (S 8) i v))) = bv_w G (bv_up S 8 i v) M z := bv_w_set (by omega) rfl (fun t ht hn => bv_eS (fun _ => by rw [bv_up_n _ _ _ (by omega)]) (fun _ => by rw [bv_up_n _ _ _ (by omega)]) (fun _ _ => bv_up_n _ _ _ (by omega)) (fun _ _ r _ _ => by rw [bv_up_n _ _ _ (by omega)]) (fun _ _ => bv_up_n _ _ _ (by omega)))
theorem bv_sB9 (G : bv_G) (S M : bv_X) (z : bv_Z) {j : Nat} (hj : j < 8) (v : Int32) : (bv_w G S M z).set (11 + j) (bv_a G (11 + j), .inr (0, [.int v, .int (S 10 j), .int (S 11 j), .int (S 12 j), .int (S 13 j), .int (S 14 j), .int (S 15 j), .ref (bv_a G (19 + j)), .ref (bv_a G (27 + j)), .ref (bv_a G (35 + j))])) = bv_w G (bv_up S 9 j v) M z := bv_w_set (by omega) ((bv_eB G (bv_up S 9 j v) M z hj).trans (by rw [bv_up_ss, (show bv_up S 9 j v 10 = S 10 from bv_up_n _ _ _ (by decide)), (show bv_up S 9 j v 11 = S 11 from bv_up_n _ _ _ (by decide)), (show bv_up S 9 j v 12 = S 12 from bv_up_n _ _ _ (by decide)), (show bv_up S 9 j v 13 = S 13 from bv_up_n _ _ _ (by decide)), (show bv_up S 9 j v 14 = S 14 from bv_up_n _ _ _ (by decide)), (show bv_up S 9 j v 15 = S 15 from bv_up_n _ _ _ (by decide))])) (fun t ht hn => bv_eS (fun _ => by rw [bv_up_n _ _ _ (by omega)]) (fun _ => by rw [bv_up_n _ _ _ (by omega)]) (fun _ _ => bv_up_n _ _ _ (by omega)) (fun _ _ r _ _ => bv_up_o _ (by omega)) (fun _ _ => bv_up_n _ _ _ (by omega)))
theorem bv_sB10 (G : bv_G) (S M : bv_X) (z : bv_Z) {j : Nat} (hj : j < 8) (v : Int32) : (bv_w G S M z).set (11 + j) (bv_a G (11 + j), .inr (0, [.int (S 9 j), .int v, .int (S 11 j), .int (S 12 j), .int (S 13 j), .int (S 14 j), .int (S 15 j), .ref (bv_a G (19 + j)), .ref (bv_a G (27 + j)), .ref (bv_a G (35 + j))])) = bv_w G (bv_up S 10 j v) M z := bv_w_set (by omega) ((bv_eB G (bv_up S 10 j v) M z hj).trans (by rw [(show bv_up S 10 j v 9 = S 9 from bv_up_n _ _ _ (by decide)), bv_up_ss, (show bv_up S 10 j v 11 = S 11 from bv_up_n _ _ _ (by decide)), (show bv_up S 10 j v 12 = S 12 from bv_up_n _ _ _ (by decide)), (show bv_up S 10 j v 13 = S 13 from bv_up_n _ _ _ (by decide)), (show bv_up S 10 j v 14 = S 14 from bv_up_n _ _ _ (by decide)), (show bv_up S 10 j v 15 = S 15 from bv_up_n _ _ _ (by decide))])) (fun t ht hn => bv_eS (fun _ => by rw [bv_up_n _ _ _ (by omega)]) (fun _ => by rw [bv_up_n _ _ _ (by omega)]) (fun _ _ => bv_up_n _ _ _ (by omega)) (fun _ _ r _ _ => bv_up_o _ (by omega)) (fun _ _ => bv_up_n _ _ _ (by omega)))
theorem bv_sB11 (G : bv_G) (S M : bv_X) (z : bv_Z) {j : Nat} (hj : j < 8) (v : Int32) : (bv_w G S M z).set (11 + j) (bv_a G (11 + j), .inr (0, [.int (S 9 j), .int (S 10 j), .int v, .int (S 12 j), .int (S 13 j), .int (S 14 j), .int (S 15 j), .ref (bv_a G (19 + j)), .ref (bv_a G (27 + j)), .ref (bv_a G (35 + j))])) = bv_w G (bv_up S 11 j v) M z := bv_w_set (by omega) ((bv_eB G (bv_up S 11 j v) M z hj).trans (by rw [(show bv_up S 11 j v 9 = S 9 from bv_up_n _ _ _ (by decide)), (show bv_up S 11 j v 10 = S 10 from bv_up_n _ _ _ (by decide)), bv_up_ss, (show bv_up S 11 j v 12 = S 12 from bv_up_n _ _ _ (by decide)), (show bv_up S 11 j v 13 = S 13 from bv_up_n _ _ _ (by decide)), (show bv_up S 11 j v 14 = S 14 from bv_up_n _ _ _ (by decide)), (show bv_up S 11 j v 15 = S 15 from bv_up_n _ _ _ (by decide))])) (fun t ht hn => bv_eS (fun _ => by rw [bv_up_n _ _ _ (by omega)]) (fun _ => by rw [bv_up_n _ _ _ (by omega)]) (fun _ _ => bv_up_n _ _ _ (by omega)) (fun _ _ r _ _ => bv_up_o _ (by omega)) (fun _ _ => bv_up_n _ _ _ (by omega)))
theorem bv_sB12 (G : bv_G) (S M : bv_X) (z : bv_Z) {j : Nat} (hj : j < 8) (v : Int32) : (bv_w G S M z).set (11 + j) (bv_a G (11 + j), .inr (0, [.int (S 9 j), .int (S 10 j), .int (S 11 j), .int v, .int (S 13 j), .int (S 14 j), .int (S 15 j), .ref (bv_a G (19 + j)), .ref (bv_a G (27 + j)), .ref (bv_a G (35 + j))])) = bv_w G (bv_up S 12 j v) M z := bv_w_set (by omega) ((bv_eB G (bv_up S 12 j v) M z hj).trans (by rw [(show bv_up S 12 j v 9 = S 9 from bv_up_n _ _ _ (by decide)), (show bv_up S 12 j v 10 = S 10 from bv_up_n _ _ _ (by decide)), (show bv_up S 12 j v 11 = S 11 from bv_up_n _ _ _ (by decide)), bv_up_ss, (show bv_up S 12 j v 13 = S 13 from bv_up_n _ _ _ (by decide)), (show bv_up S 12 j v 14 = S 14 from bv_up_n _ _ _ (by decide)), (show bv_up S 12 j v 15 = S 15 from bv_up_n _ _ _ (by decide))])) (fun t ht hn => bv_eS (fun _ => by rw [bv_up_n _ _ _ (by omega)]) (fun _ => by rw [bv_up_n _ _ _ (by omega)]) (fun _ _ => bv_up_n _ _ _ (by omega)) (fun _ _ r _ _ => bv_up_o _ (by omega)) (fun _ _ => bv_up_n _ _ _ (by omega)))
theorem bv_sB13 (G : bv_G) (S M : bv_X) (z : bv_Z) {j : Nat} (hj : j < 8) (v : Int32) : (bv_w G S M z).set (11 + j) (bv_a G (11 + j), .inr (0, [.int (S 9 j), .int (S 10 j), .int (S 11 j), .int (S 12 j), .int v, .int (S 14 j), .int (S 15 j), .ref (bv_a G (19 + j)), .ref (bv_a G (27 + j)), .ref (bv_a G (35 + j))])) = bv_w G (bv_up S 13 j v) M z := bv_w_set (by omega) ((bv_eB G (bv_up S 13 j v) M z hj).trans (by rw [(show bv_up S 13 j v 9 = S 9 from bv_up_n _ _ _ (by decide)), (show bv_up S 13 j v 10 = S 10 from bv_up_n _ _ _ (by decide)), (show bv_up S 13 j v 11 = S 11 from bv_up_n _ _ _ (by decide)), (show bv_up S 13 j v 12 = S 12 from bv_up_n _ _ _ (by decide)), bv_up_ss, (show bv_up S 13 j v 14 = S 14 from bv_up_n _ _ _ (by decide)), (show bv_up S 13 j v 15 = S 15 from bv_up_n _ _ _ (by decide))])) (fun t ht hn => bv_eS (fun _ => by rw [bv_up_n _ _ _ (by omega)]) (fun _ => by rw [bv_up_n _ _ _ (by omega)]) (fun _ _ => bv_up_n _ _ _ (by omega)) (fun _ _ r _ _ => bv_up_o _ (by omega)) (fun _ _ => bv_up_n _ _ _ (by omega)))
theorem bv_sB14 (G : bv_G) (S M : bv_X) (z : bv_Z) {j : Nat} (hj : j < 8) (v : Int32) : (bv_w G S M z).set (11 + j) (bv_a G (11 + j), .inr (0, [.int (S 9 j), .int (S 10 j), .int (S 11 j), .int (S 12 j), .int (S 13 j), .int v, .int (S 15 j), .ref (bv_a G (19 + j)), .ref (bv_a G (27 + j)), .ref (bv_a G (35 + j))])) = bv_w G (bv_up S 14 j v) M z := bv_w_set (by omega) ((bv_eB G (bv_up S 14 j v) M z hj).trans (by rw [(show bv_up S 14 j v 9 = S 9 from bv_up_n _ _ _ (by decide)), (show bv_up S 14 j v 10 = S 10 from bv_up_n _ _ _ (by decide)), (show bv_up S 14 j v 11 = S 11 from bv_up_n _ _ _ (by decide)), (show bv_up S 14 j v 12 = S 12 from bv_up_n _ _ _ (by decide)), (show bv_up S 14 j v 13 = S 13 from bv_up_n _ _ _ (by decide)), bv_up_ss, (show bv_up S 14 j v 15 = S 15 from bv_up_n _ _ _ (by decide))])) (fun t ht hn => bv_eS (fun _ => by rw [bv_up_n _ _ _ (by omega)]) (fun _ => by rw [bv_up_n _ _ _ (by omega)]) (fun _ _ => bv_up_n _ _ _ (by omega)) (fun _ _ r _ _ => bv_up_o _ (by omega)) (fun _ _ => bv_up_n _ _ _ (by omega)))
theorem bv_sB15 (G : bv_G) (S M : bv_X) (z : bv_Z) {j : Nat} (hj : j < 8) (v : Int32) : (bv_w G S M z).set (11 + j) (bv_a G (11 + j), .inr (0, [.int (S 9 j), .int (S 10 j), .int (S 11 j), .int (S 12 j), .int (S 13 j), .int (S 14 j), .int v, .ref (bv_a G (19 + j)), .ref (bv_a G (27 + j)), .ref (bv_a G (35 + j))])) = bv_w G (bv_up S 15 j v) M z := bv_w_set (by omega) ((bv_eB G (bv_up S 15 j v) M z hj).trans (by rw [(show bv_up S 15 j v 9 = S 9 from bv_up_n _ _ _ (by decide)), (show bv_up S 15 j v 10 = S 10 from bv_up_n _ _ _ (by decide)), (show bv_up S 15 j v 11 = S 11 from bv_up_n _ _ _ (by decide)), (show bv_up S 15 j v 12 = S 12 from bv_up_n _ _ _ (by decide)), (show bv_up S 15 j v 13 = S 13 from bv_up_n _ _ _ (by decide)), (show bv_up S 15 j v 14 = S 14 from bv_up_n _ _ _ (by decide)), bv_up_ss])) (fun t ht hn => bv_eS (fun _ => by rw [bv_up_n _ _ _ (by omega)]) (fun _ => by rw [bv_up_n _ _ _ (by omega)]) (fun _ _ => bv_up_n _ _ _ (by omega)) (fun _ _ r _ _ => bv_up_o _ (by omega)) (fun _ _ => bv_up_n _ _ _ (by omega)))
theorem bv_sP19 (G : bv_G) (S M : bv_X) (z : bv_Z) {j : Nat} (hj : j < 8) (i : Nat) (v : Int32) : (bv_w G S M z).set (19 + j) (bv_a G (19 + j), .inl (bv_t G 0, 5, .inl (upd (S (16 + j)) i v))) = bv_w G (bv_up S (16 + j) i v) M z := bv_w_set (by omega) ((bv_eP19 G (bv_up S (16 + j) i v) M z hj).trans (by rw [bv_up_s])) (fun t ht hn => bv_eS (fun _ => by rw [bv_up_n _ _ _ (by omega)]) (fun _ => by rw [bv_up_n _ _ _ (by omega)]) (fun _ _ => bv_up_n _ _ _ (by omega)) (fun _ _ r _ _ => by rw [bv_up_n _ _ _ (by omega)]) (fun _ _ => bv_up_n _ _ _ (by omega)))
theorem bv_sP27 (G : bv_G) (S M : bv_X) (z : bv_Z) {j : Nat} (hj : j < 8) (i : Nat) (v : Int32) : (bv_w G S M z).set (27 + j) (bv_a G (27 + j), .inl (bv_t G 0, 5, .inl (upd (S (24 + j)) i v))) = bv_w G (bv_up S (24 + j) i v) M z := bv_w_set (by omega) ((bv_eP27 G (bv_up S (24 + j) i v) M z hj).trans (by rw [bv_up_s])) (fun t ht hn => bv_eS (fun _ => by rw [bv_up_n _ _ _ (by omega)]) (fun _ => by rw [bv_up_n _ _ _ (by omega)]) (fun _ _ => bv_up_n _ _ _ (by omega)) (fun _ _ r _ _ => by rw [bv_up_n _ _ _ (by omega)]) (fun _ _ => bv_up_n _ _ _ (by omega)))
theorem bv_sP35 (G : bv_G) (S M : bv_X) (z : bv_Z) {j : Nat} (hj : j < 8) (i : Nat) (v : Int32) : (bv_w G S M z).set (35 + j) (bv_a G (35 + j), .inl (bv_t G 0, 5, .inl (upd (S (32 + j)) i v))) = bv_w G (bv_up S (32 + j) i v) M z := bv_w_set (by omega) ((bv_eP35 G (bv_up S (32 + j) i v) M z hj).trans (by rw [bv_up_s])) (fun t ht hn => bv_eS (fun _ => by rw [bv_up_n _ _ _ (by omega)]) (fun _ => by rw [bv_up_n _ _ _ (by omega)]) (fun _ _ => bv_up_n _ _ _ (by omega)) (fun _ _ r _ _ => by rw [bv_up_n _ _ _ (by omega)]) (fun _ _ => bv_up_n _ _ _ (by omega)))
theorem bv_sth (G : bv_G) (S M : bv_X) (z : bv_Z) (v : Int32) : (bv_w G S M z).set 43 (bv_a G 43, .inr (3, [.int v, .int (M 0 0), .ref (bv_a G 44), .ref (bv_a G 45), .ref (bv_a G 46), .ref (bv_a G 47), .ref (bv_a G 48), .ref (bv_a G 49), .ref (bv_a G 50), .ref (bv_a G 51), .ref (bv_a G 52), .ref (bv_a G 53), .ref (bv_a G 54), .ref (bv_a G 55), .ref (bv_a G 56), .int (M 0 1), .ref (bv_a G 57), .ref (bv_a G 58), .ref (bv_a G 59), .ref (bv_a G 60), .ref (bv_a G 61)])) = bv_w G S M (v, z.2) := bv_w_set (by omega) rfl (fun t ht hn => bv_eM (fun h => absurd h hn) (fun _ _ => rfl) (fun _ => rfl))
theorem bv_snow (G : bv_G) (S M : bv_X) (z : bv_Z) (v : Int32) : (bv_w G S M z).set 43 (bv_a G 43, .inr (3, [.int z.1, .int v, .ref (bv_a G 44), .ref (bv_a G 45), .ref (bv_a G 46), .ref (bv_a G 47), .ref (bv_a G 48), .ref (bv_a G 49), .ref (bv_a G 50), .ref (bv_a G 51), .ref (bv_a G 52), .ref (bv_a G 53), .ref (bv_a G 54), .ref (bv_a G 55), .ref (bv_a G 56), .int (M 0 1), .ref (bv_a G 57), .ref (bv_a G 58), .ref (bv_a G 59), .ref (bv_a G 60), .ref (bv_a G 61)])) = bv_w G S (bv_up M 0 0 v) z := bv_w_set (by omega) rfl (fun t ht hn => bv_eM (fun h => absurd h hn) (fun h1 h2 => bv_up_n _ _ _ (bv_mr0 h1 h2)) (fun _ => rfl))
theorem bv_sord (G : bv_G) (S M : bv_X) (z : bv_Z) (v : Int32) : (bv_w G S M z).set 43 (bv_a G 43, .inr (3, [.int z.1, .int (M 0 0), .ref (bv_a G 44), .ref (bv_a G 45), .ref (bv_a G 46), .ref (bv_a G 47), .ref (bv_a G 48), .ref (bv_a G 49), .ref (bv_a G 50), .ref (bv_a G 51), .ref (bv_a G 52), .ref (bv_a G 53), .ref (bv_a G 54), .ref (bv_a G 55), .ref (bv_a G 56), .int v, .ref (bv_a G 57), .ref (bv_a G 58), .ref (bv_a G 59), .ref (bv_a G 60), .ref (bv_a G 61)])) = bv_w G S (bv_up M 0 1 v) z := bv_w_set (by omega) rfl (fun t ht hn => bv_eM (fun h => absurd h hn) (fun h1 h2 => bv_up_n _ _ _ (bv_mr0 h1 h2)) (fun _ => rfl))
theorem bv_s44 (G : bv_G) (S M : bv_X) (z : bv_Z) (i : Nat) (v : Int32) : (bv_w G S M z).set 44 (bv_a G 44, .inl (bv_t G 1, 16, .inl (upd (M 1) i v))) = bv_w G S (bv_up M 1 i v) z := bv_w_set (by omega) rfl (fun t ht hn => bv_eM (fun _ => ⟨by rw [bv_up_n _ _ _ (by omega)], by rw [bv_up_n _ _ _ (by omega)], rfl⟩) (fun h1 h2 => bv_up_n _ _ _ (bv_mrk (k := 44) h1 h2 (by decide) (by decide) hn)) (fun _ => rfl))
theorem bv_s45 (G : bv_G) (S M : bv_X) (z : bv_Z) (i : Nat) (v : Int32) : (bv_w G S M z).set 45 (bv_a G 45, .inl (bv_t G 0, 16, .inl (upd (M 2) i v))) = bv_w G S (bv_up M 2 i v) z := bv_w_set (by omega) rfl (fun t ht hn => bv_eM (fun _ => ⟨by rw [bv_up_n _ _ _ (by omega)], by rw [bv_up_n _ _ _ (by omega)], rfl⟩) (fun h1 h2 => bv_up_n _ _ _ (bv_mrk (k := 45) h1 h2 (by decide) (by decide) hn)) (fun _ => rfl))
theorem bv_s46 (G : bv_G) (S M : bv_X) (z : bv_Z) (i : Nat) (v : Int32) : (bv_w G S M z).set 46 (bv_a G 46, .inl (bv_t G 0, 16, .inl (upd (M 3) i v))) = bv_w G S (bv_up M 3 i v) z := bv_w_set (by omega) rfl (fun t ht hn => bv_eM (fun _ => ⟨by rw [bv_up_n _ _ _ (by omega)], by rw [bv_up_n _ _ _ (by omega)], rfl⟩) (fun h1 h2 => bv_up_n _ _ _ (bv_mrk (k := 46) h1 h2 (by decide) (by decide) hn)) (fun _ => rfl))
theorem bv_s47 (G : bv_G) (S M : bv_X) (z : bv_Z) (i : Nat) (v : Int32) : (bv_w G S M z).set 47 (bv_a G 47, .inl (bv_t G 0, 8, .inl (upd (M 9) i v))) = bv_w G S (bv_up M 9 i v) z := bv_w_set (by omega) rfl (fun t ht hn => bv_eM (fun _ => ⟨by rw [bv_up_n _ _ _ (by omega)], by rw [bv_up_n _ _ _ (by omega)], rfl⟩) (fun h1 h2 => bv_up_n _ _ _ (bv_mrk (k := 47) h1 h2 (by decide) (by decide) hn)) (fun _ => rfl))
theorem bv_s48 (G : bv_G) (S M : bv_X) (z : bv_Z) (i : Nat) (v : Int32) : (bv_w G S M z).set 48 (bv_a G 48, .inl (bv_t G 0, 8, .inl (upd (M 10) i v))) = bv_w G S (bv_up M 10 i v) z := bv_w_set (by omega) rfl (fun t ht hn => bv_eM (fun _ => ⟨by rw [bv_up_n _ _ _ (by omega)], by rw [bv_up_n _ _ _ (by omega)], rfl⟩) (fun h1 h2 => bv_up_n _ _ _ (bv_mrk (k := 48) h1 h2 (by decide) (by decide) hn)) (fun _ => rfl))
theorem bv_s49 (G : bv_G) (S M : bv_X) (z : bv_Z) (i : Nat) (v : Int32) : (bv_w G S M z).set 49 (bv_a G 49, .inl (bv_t G 0, 8, .inl (upd (M 11) i v))) = bv_w G S (bv_up M 11 i v) z := bv_w_set (by omega) rfl (fun t ht hn => bv_eM (fun _ => ⟨by rw [bv_up_n _ _ _ (by omega)], by rw [bv_up_n _ _ _ (by omega)], rfl⟩) (fun h1 h2 => bv_up_n _ _ _ (bv_mrk (k := 49) h1 h2 (by decide) (by decide) hn)) (fun _ => rfl))
theorem bv_s50 (G : bv_G) (S M : bv_X) (z : bv_Z) (i : Nat) (v : Int32) : (bv_w G S M z).set 50 (bv_a G 50, .inl (bv_t G 0, 8, .inl (upd (M 13) i v))) = bv_w G S (bv_up M 13 i v) z := bv_w_set (by omega) rfl (fun t ht hn => bv_eM (fun _ => ⟨by rw [bv_up_n _ _ _ (by omega)], by rw [bv_up_n _ _ _ (by omega)], rfl⟩) (fun h1 h2 => bv_up_n _ _ _ (bv_mrk (k := 50) h1 h2 (by decide) (by decide) hn)) (fun _ => rfl))
theorem bv_s51 (G : bv_G) (S M : bv_X) (z : bv_Z) (i : Nat) (v : Int32) : (bv_w G S M z).set 51 (bv_a G 51, .inl (bv_t G 1, 8, .inl (upd (M 14) i v))) = bv_w G S (bv_up M 14 i v) z := bv_w_set (by omega) rfl (fun t ht hn => bv_eM (fun _ => ⟨by rw [bv_up_n _ _ _ (by omega)], by rw [bv_up_n _ _ _ (by omega)], rfl⟩) (fun h1 h2 => bv_up_n _ _ _ (bv_mrk (k := 51) h1 h2 (by decide) (by decide) hn)) (fun _ => rfl))
theorem bv_s52 (G : bv_G) (S M : bv_X) (z : bv_Z) (i : Nat) (v : Int32) : (bv_w G S M z).set 52 (bv_a G 52, .inl (bv_t G 0, 8, .inl (upd (M 12) i v))) = bv_w G S (bv_up M 12 i v) z := bv_w_set (by omega) rfl (fun t ht hn => bv_eM (fun _ => ⟨by rw [bv_up_n _ _ _ (by omega)], by rw [bv_up_n _ _ _ (by omega)], rfl⟩) (fun h1 h2 => bv_up_n _ _ _ (bv_mrk (k := 52) h1 h2 (by decide) (by decide) hn)) (fun _ => rfl))
theorem bv_s53 (G : bv_G) (S M : bv_X) (z : bv_Z) (i : Nat) (v : Int32) : (bv_w G S M z).set 53 (bv_a G 53, .inl (bv_t G 0, 8, .inl (upd (M 15) i v))) = bv_w G S (bv_up M 15 i v) z := bv_w_set (by omega) rfl (fun t ht hn => bv_eM (fun _ => ⟨by rw [bv_up_n _ _ _ (by omega)], by rw [bv_up_n _ _ _ (by omega)], rfl⟩) (fun h1 h2 => bv_up_n _ _ _ (bv_mrk (k := 53) h1 h2 (by decide) (by decide) hn)) (fun _ => rfl))
theorem bv_s54 (G : bv_G) (S M : bv_X) (z : bv_Z) (i : Nat) (v : Int32) : (bv_w G S M z).set 54 (bv_a G 54, .inl (bv_t G 0, 40, .inl (upd (M 16) i v))) = bv_w G S (bv_up M 16 i v) z := bv_w_set (by omega) rfl (fun t ht hn => bv_eM (fun _ => ⟨by rw [bv_up_n _ _ _ (by omega)], by rw [bv_up_n _ _ _ (by omega)], rfl⟩) (fun h1 h2 => bv_up_n _ _ _ (bv_mrk (k := 54) h1 h2 (by decide) (by decide) hn)) (fun _ => rfl))
theorem bv_s55 (G : bv_G) (S M : bv_X) (z : bv_Z) (i : Nat) (v : Int32) : (bv_w G S M z).set 55 (bv_a G 55, .inl (bv_t G 0, 40, .inl (upd (M 17) i v))) = bv_w G S (bv_up M 17 i v) z := bv_w_set (by omega) rfl (fun t ht hn => bv_eM (fun _ => ⟨by rw [bv_up_n _ _ _ (by omega)], by rw [bv_up_n _ _ _ (by omega)], rfl⟩) (fun h1 h2 => bv_up_n _ _ _ (bv_mrk (k := 55) h1 h2 (by decide) (by decide) hn)) (fun _ => rfl))
theorem bv_s56 (G : bv_G) (S M : bv_X) (z : bv_Z) (i : Nat) (v : Int32) : (bv_w G S M z).set 56 (bv_a G 56, .inl (bv_t G 0, 40, .inl (upd (M 18) i v))) = bv_w G S (bv_up M 18 i v) z := bv_w_set (by omega) rfl (fun t ht hn => bv_eM (fun _ => ⟨by rw [bv_up_n _ _ _ (by omega)], by rw [bv_up_n _ _ _ (by omega)], rfl⟩) (fun h1 h2 => bv_up_n _ _ _ (bv_mrk (k := 56) h1 h2 (by decide) (by decide) hn)) (fun _ => rfl))
theorem bv_s57 (G : bv_G) (S M : bv_X) (z : bv_Z) (i : Nat) (v : Int32) : (bv_w G S M z).set 57 (bv_a G 57, .inl (bv_t G 0, 30, .inl (upd (M 4) i v))) = bv_w G S (bv_up M 4 i v) z := bv_w_set (by omega) rfl (fun t ht hn => bv_eM (fun _ => ⟨by rw [bv_up_n _ _ _ (by omega)], by rw [bv_up_n _ _ _ (by omega)], rfl⟩) (fun h1 h2 => bv_up_n _ _ _ (bv_mrk (k := 57) h1 h2 (by decide) (by decide) hn)) (fun _ => rfl))
theorem bv_s58 (G : bv_G) (S M : bv_X) (z : bv_Z) (i : Nat) (v : Int32) : (bv_w G S M z).set 58 (bv_a G 58, .inl (bv_t G 0, 30, .inl (upd (M 5) i v))) = bv_w G S (bv_up M 5 i v) z := bv_w_set (by omega) rfl (fun t ht hn => bv_eM (fun _ => ⟨by rw [bv_up_n _ _ _ (by omega)], by rw [bv_up_n _ _ _ (by omega)], rfl⟩) (fun h1 h2 => bv_up_n _ _ _ (bv_mrk (k := 58) h1 h2 (by decide) (by decide) hn)) (fun _ => rfl))
theorem bv_s59 (G : bv_G) (S M : bv_X) (z : bv_Z) (i : Nat) (v : Int32) : (bv_w G S M z).set 59 (bv_a G 59, .inl (bv_t G 0, 30, .inl (upd (M 6) i v))) = bv_w G S (bv_up M 6 i v) z := bv_w_set (by omega) rfl (fun t ht hn => bv_eM (fun _ => ⟨by rw [bv_up_n _ _ _ (by omega)], by rw [bv_up_n _ _ _ (by omega)], rfl⟩) (fun h1 h2 => bv_up_n _ _ _ (bv_mrk (k := 59) h1 h2 (by decide) (by decide) hn)) (fun _ => rfl))
theorem bv_s60 (G : bv_G) (S M : bv_X) (z : bv_Z) (i : Nat) (v : Int32) : (bv_w G S M z).set 60 (bv_a G 60, .inl (bv_t G 0, 30, .inl (upd (M 7) i v))) = bv_w G S (bv_up M 7 i v) z := bv_w_set (by omega) rfl (fun t ht hn => bv_eM (fun _ => ⟨by rw [bv_up_n _ _ _ (by omega)], by rw [bv_up_n _ _ _ (by omega)], rfl⟩) (fun h1 h2 => bv_up_n _ _ _ (bv_mrk (k := 60) h1 h2 (by decide) (by decide) hn)) (fun _ => rfl))
theorem bv_s61 (G : bv_G) (S M : bv_X) (z : bv_Z) (i : Nat) (v : Int32) : (bv_w G S M z).set 61 (bv_a G 61, .inl (bv_t G 1, 30, .inl (upd (M 8) i v))) = bv_w G S (bv_up M 8 i v) z := bv_w_set (by omega) rfl (fun t ht hn => bv_eM (fun _ => ⟨by rw [bv_up_n _ _ _ (by omega)], by rw [bv_up_n _ _ _ (by omega)], rfl⟩) (fun h1 h2 => bv_up_n _ _ _ (bv_mrk (k := 61) h1 h2 (by decide) (by decide) hn)) (fun _ => rfl))
theorem bv_sout (G : bv_G) (S M : bv_X) (z : bv_Z) (v : Int64) : (bv_w G S M z).set 62 (bv_a G 62, .inl (bv_t G 3, 1, .inr (.inl (fun _ => v)))) = bv_w G S M (z.1, v) := bv_w_set (by omega) rfl (fun t ht hn => bv_eM (fun _ => ⟨rfl, rfl, rfl⟩) (fun _ _ => rfl) (fun h => absurd (show t = 62 by omega) hn))
