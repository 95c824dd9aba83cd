/-! ===== WHAT HOLDS OF THE ROWS STAYS ===== -/
theorem bv_I_up {n k : Nat} {X : bv_X} {r i : Nat} {v : Int32} (hI : bv_I n X) (hk : n ≤ k) (h00 : r = 0 → i = 0 → ∃ t, t ≤ 99999 ∧ v = nI t) (h01 : r = 0 → i = 1 → ∃ c, c ≤ 30 ∧ v = nI c) (h1 : r = 1 → v = 0 ∨ v = 1) (h8 : r = 8 → v = 0 ∨ v = 1) (h4 : r = 4 → ∃ b, b < 8 ∧ v = nI b) (h9 : r = 9 → v = 0 ∨ v = 1 ∨ v = 2) (h10 : r = 10 → ∃ d, d < 16 ∧ v = nI d) (h11 : r = 11 → ∃ d, d ≤ 101000 + 1000 * k ∧ v = nI d) (h14 : r = 14 → v = 0 ∨ v = 1) (h15 : r = 15 → ∃ c, c ≤ 5 ∧ v = nI c) : bv_I k (bv_up X r i v) := by
  refine ⟨?_, ?_, fun p hp => ?_, fun o ho => ⟨?_, ?_⟩, fun j hj => ⟨?_, ?_, ?_, ?_, ?_⟩⟩
  · rw [bv_up_at]
    split
    · rename_i q; exact h00 q.1.symm q.2.symm
    · exact bv_I_now hI
  · rw [bv_up_at]
    split
    · rename_i q; exact h01 q.1.symm q.2.symm
    · exact bv_I_cnt hI
  · rw [bv_up_at]
    split
    · rename_i q; exact h1 q.1.symm
    · exact bv_I_dead hI hp
  · rw [bv_up_at]
    split
    · rename_i q; exact h8 q.1.symm
    · exact bv_I_holds hI ho
  · rw [bv_up_at]
    split
    · rename_i q; exact h4 q.1.symm
    · exact bv_I_at hI ho
  · rw [bv_up_at]
    split
    · rename_i q; exact h9 q.1.symm
    · exact bv_I_st hI hj
  · rw [bv_up_at]
    split
    · rename_i q; exact h10 q.1.symm
    · obtain ⟨d, a, b, -⟩ := bv_I_hd hI hj
      exact ⟨d, a, b⟩
  · rw [bv_up_at]
    split
    · rename_i q; exact h11 q.1.symm
    · obtain ⟨d, a, b⟩ := bv_I_paid hI hj
      exact ⟨d, by omega, b⟩
  · rw [bv_up_at]
    split
    · rename_i q; exact h14 q.1.symm
    · exact bv_I_will hI hj
  · rw [bv_up_at]
    split
    · rename_i q; exact h15 q.1.symm
    · exact bv_I_px hI hj
theorem bv_I_mono {n k : Nat} {X : bv_X} (hI : bv_I n X) (hk : n ≤ k) : bv_I k X :=
  ⟨hI.1, hI.2.1, hI.2.2.1, hI.2.2.2.1, fun j hj => ⟨(hI.2.2.2.2 j hj).1, (hI.2.2.2.2 j hj).2.1, (bv_I_paid hI hj).imp (fun d h => ⟨by omega, h.2⟩), (hI.2.2.2.2 j hj).2.2.2⟩⟩
/-- of rows that nothing is said of -/
theorem bv_I_any {n : Nat} {X : bv_X} {r i : Nat} {v : Int32} (hI : bv_I n X) (h : r ≠ 0 ∧ r ≠ 1 ∧ r ≠ 8 ∧ r ≠ 4 ∧ r ≠ 9 ∧ r ≠ 10 ∧ r ≠ 11 ∧ r ≠ 14 ∧ r ≠ 15) : bv_I n (bv_up X r i v) :=
  bv_I_up hI (Nat.le_refl _) (fun e => absurd e h.1) (fun e => absurd e h.1) (fun e => absurd e h.2.1) (fun e => absurd e h.2.2.1) (fun e => absurd e h.2.2.2.1) (fun e => absurd e h.2.2.2.2.1) (fun e => absurd e h.2.2.2.2.2.1) (fun e => absurd e h.2.2.2.2.2.2.1) (fun e => absurd e h.2.2.2.2.2.2.2.1) (fun e => absurd e h.2.2.2.2.2.2.2.2)
theorem bv_I_fr {n c : Nat} {X : bv_X} {b : Int32} (hI : bv_I n X) : bv_I n (bv_fr X b c) := by
  have ne : ∀ {r : Nat}, r ≠ 8 → bv_fr X b c r = X r := fun h => bv_fr_ne h
  refine ⟨by rw [ne (by decide)]; exact hI.1, by rw [ne (by decide)]; exact hI.2.1, by rw [ne (by decide)]; exact hI.2.2.1, fun o ho => ⟨?_, by rw [ne (by decide)]; exact bv_I_at hI ho⟩, ?_⟩
  · show (if (8 : Nat) = 8 ∧ o < c ∧ X 4 o = b then 0 else X 8 o) = 0 ∨ (if (8 : Nat) = 8 ∧ o < c ∧ X 4 o = b then 0 else X 8 o) = 1
    split
    · exact Or.inl rfl
    · exact bv_I_holds hI ho
  · rw [ne (r := 9) (by decide), ne (r := 10) (by decide), ne (r := 11) (by decide), ne (r := 14) (by decide), ne (r := 15) (by decide)]
    exact hI.2.2.2.2
theorem bv_dp_ne {Y : bv_X} {q c r : Nat} (h : r ≠ 15) : bv_dp Y q c r = Y r := funext fun i => if_neg (fun h2 => h h2.1)
theorem bv_I_dp {n c q : Nat} {X : bv_X} (hI : bv_I n X) : bv_I n (bv_dp X q c) := by
  have ne : ∀ {r : Nat}, r ≠ 15 → bv_dp X q c r = X r := fun h => bv_dp_ne h
  refine ⟨by rw [ne (by decide)]; exact hI.1, by rw [ne (by decide)]; exact hI.2.1, by rw [ne (by decide)]; exact hI.2.2.1, by rw [ne (r := 8) (by decide), ne (r := 4) (by decide)]; exact hI.2.2.2.1, fun j hj => ?_⟩
  obtain ⟨a1, a2, a3, a4, a5⟩ := hI.2.2.2.2 j hj
  refine ⟨by rw [ne (by decide)]; exact a1, by rw [ne (by decide)]; exact a2, by rw [ne (by decide)]; exact a3, by rw [ne (by decide)]; exact a4, ?_⟩
  rw [bv_dp_at]
  split
  · exact ⟨0, by omega, rfl⟩
  · exact a5
theorem bv_I_free {n j : Nat} {X : bv_X} (hI : bv_I n X) : bv_I n (bv_free X j) := by
  unfold bv_free
  refine bv_I_fr ?_
  refine bv_I_up ?_ (Nat.le_refl _) (fun e => absurd e (by decide)) (fun e => absurd e (by decide)) (fun e => absurd e (by decide)) (fun e => absurd e (by decide)) (fun e => absurd e (by decide)) (fun e => absurd e (by decide)) (fun e => absurd e (by decide)) (fun e => absurd e (by decide)) (fun e => absurd e (by decide)) (fun _ => ⟨0, by omega, rfl⟩)
  exact bv_I_up hI (Nat.le_refl _) (fun e => absurd e (by decide)) (fun e => absurd e (by decide)) (fun e => absurd e (by decide)) (fun e => absurd e (by decide)) (fun e => absurd e (by decide)) (fun _ => Or.inl rfl) (fun e => absurd e (by decide)) (fun e => absurd e (by decide)) (fun e => absurd e (by decide)) (fun e => absurd e (by decide))
theorem bv_rb_of {v lo hi : Int32} (h : bv_rb v lo hi = true) : bv_rg v lo hi := of_decide_eq_true h
theorem bv_I_pass {n : Nat} {X : bv_X} (hI : bv_I n X) (p0 : Int32) : bv_I (n + 1) (sp_pass X p0).2.2 := by
  unfold sp_pass
  split
  · rename_i h
    split
    · exact bv_I_mono hI (by omega)
    · rename_i h2
      obtain ⟨d, h3, h4, rfl⟩ := bv_1000 (bv_rb_of h)
      obtain ⟨t, h5, h6⟩ := bv_I_now hI
      rw [h6, nI_add] at h2 ⊢
      have h7 : t + d ≤ 99999 := by
        rcases Nat.lt_or_ge 99999 (t + d) with q | q
        · exact absurd (nI_lt (a := 99999) q (by omega)) h2
        · exact q
      exact bv_I_up hI (by omega) (fun _ _ => ⟨t + d, h7, rfl⟩) (fun _ e => absurd e (by decide)) (fun e => absurd e (by decide)) (fun e => absurd e (by decide)) (fun e => absurd e (by decide)) (fun e => absurd e (by decide)) (fun e => absurd e (by decide)) (fun e => absurd e (by decide)) (fun e => absurd e (by decide)) (fun e => absurd e (by decide))
  · exact bv_I_mono hI (by omega)
theorem bv_I_rent {n : Nat} {X : bv_X} (hI : bv_I n X) (p0 p1 p2 : Int32) : bv_I (n + 1) (sp_rent X p0 p1 p2).2.2 := by
  unfold sp_rent
  split
  · rename_i h
    obtain ⟨q, hq, rfl⟩ := bv_of16 (bv_rb_of h.2.1)
    obtain ⟨d, h3, h4, rfl⟩ := bv_1000 (bv_rb_of h.2.2)
    obtain ⟨t, h5, h6⟩ := bv_I_now hI
    split
    · have hI1 : bv_I n (bv_up X 9 (bv_nb p0) 1) := bv_I_up hI (Nat.le_refl _) (fun e => absurd e (by decide)) (fun e => absurd e (by decide)) (fun e => absurd e (by decide)) (fun e => absurd e (by decide)) (fun e => absurd e (by decide)) (fun _ => Or.inr (Or.inl rfl)) (fun e => absurd e (by decide)) (fun e => absurd e (by decide)) (fun e => absurd e (by decide)) (fun e => absurd e (by decide))
      have hI2 : bv_I n (bv_up (bv_up X 9 (bv_nb p0) 1) 10 (bv_nb p0) (nI q)) := bv_I_up hI1 (Nat.le_refl _) (fun e => absurd e (by decide)) (fun e => absurd e (by decide)) (fun e => absurd e (by decide)) (fun e => absurd e (by decide)) (fun e => absurd e (by decide)) (fun e => absurd e (by decide)) (fun _ => ⟨q, hq, rfl⟩) (fun e => absurd e (by decide)) (fun e => absurd e (by decide)) (fun e => absurd e (by decide))
      have hI3 : bv_I (n + 1) (bv_up (bv_up (bv_up X 9 (bv_nb p0) 1) 10 (bv_nb p0) (nI q)) 11 (bv_nb p0) (X 0 0 + nI d)) := bv_I_up hI2 (by omega) (fun e => absurd e (by decide)) (fun e => absurd e (by decide)) (fun e => absurd e (by decide)) (fun e => absurd e (by decide)) (fun e => absurd e (by decide)) (fun e => absurd e (by decide)) (fun e => absurd e (by decide)) (fun _ => ⟨t + d, by omega, by rw [h6, nI_add]⟩) (fun e => absurd e (by decide)) (fun e => absurd e (by decide))
      exact bv_I_up (bv_I_any hI3 (by decide)) (Nat.le_refl _) (fun e => absurd e (by decide)) (fun e => absurd e (by decide)) (fun e => absurd e (by decide)) (fun e => absurd e (by decide)) (fun e => absurd e (by decide)) (fun e => absurd e (by decide)) (fun e => absurd e (by decide)) (fun e => absurd e (by decide)) (fun _ => Or.inl rfl) (fun e => absurd e (by decide))
    · exact bv_I_mono hI (by omega)
  · exact bv_I_mono hI (by omega)
theorem bv_I_extend {n : Nat} {X : bv_X} (hI : bv_I n X) (p0 p1 : Int32) : bv_I (n + 1) (sp_extend X p0 p1).2.2 := by
  unfold sp_extend
  split
  · rename_i h
    obtain ⟨j, hj, rfl⟩ := bv_of8 (bv_rb_of h.1)
    obtain ⟨d, h3, h4, rfl⟩ := bv_1000 (bv_rb_of h.2)
    split
    · obtain ⟨t, h5, h6⟩ := bv_I_paid hI hj
      refine bv_I_up hI (by omega) (fun e => absurd e (by decide)) (fun e => absurd e (by decide)) (fun e => absurd e (by decide)) (fun e => absurd e (by decide)) (fun e => absurd e (by decide)) (fun e => absurd e (by decide)) (fun e => absurd e (by decide)) (fun _ => ⟨t + d, by omega, ?_⟩) (fun e => absurd e (by decide)) (fun e => absurd e (by decide))
      rw [show bv_nb (nI j) = j from bv_cl hj (by decide), h6, nI_add]
    · exact bv_I_mono hI (by omega)
  · exact bv_I_mono hI (by omega)
theorem bv_I_giveBack {n : Nat} {X : bv_X} (hI : bv_I n X) (p0 p1 : Int32) : bv_I (n + 1) (sp_giveBack X p0 p1).2.2 := by
  unfold sp_giveBack
  split
  · split
    · exact bv_I_mono (bv_I_free hI) (by omega)
    · exact bv_I_mono hI (by omega)
  · exact bv_I_mono hI (by omega)
theorem bv_I_drill {n : Nat} {X : bv_X} (hI : bv_I n X) (p0 p1 p2 : Int32) : bv_I (n + 1) (sp_drill X p0 p1 p2).2.2 := by
  unfold sp_drill
  split
  · split
    · exact bv_I_up (bv_I_any hI (by decide)) (by omega) (fun e => absurd e (by decide)) (fun e => absurd e (by decide)) (fun e => absurd e (by decide)) (fun e => absurd e (by decide)) (fun e => absurd e (by decide)) (fun _ => Or.inr (Or.inr rfl)) (fun e => absurd e (by decide)) (fun e => absurd e (by decide)) (fun e => absurd e (by decide)) (fun e => absurd e (by decide))
    · exact bv_I_mono hI (by omega)
  · exact bv_I_mono hI (by omega)
theorem bv_I_fetch {n : Nat} {X : bv_X} (hI : bv_I n X) (p0 p1 : Int32) : bv_I (n + 1) (sp_fetch X p0 p1).2.2 := by
  unfold sp_fetch
  split
  · split
    · exact bv_I_mono (bv_I_free hI) (by omega)
    · exact bv_I_mono hI (by omega)
  · exact bv_I_mono hI (by omega)
theorem bv_I_proxy {n : Nat} {X : bv_X} (hI : bv_I n X) (p0 p1 p2 p3 : Int32) : bv_I (n + 1) (sp_proxy X p0 p1 p2 p3).2.2 := by
  unfold sp_proxy
  split
  · rename_i h
    obtain ⟨j, hj, rfl⟩ := bv_of8 (bv_rb_of h.1)
    split
    · rename_i h2
      have h3 := h2.2.2.2
      rw [show bv_nb (nI j) = j from bv_cl hj (by decide)] at h3 ⊢
      obtain ⟨c, h4, h5⟩ := bv_I_px hI hj
      have h6 := bv_lt_ne (b := 5) h5 h4 h3
      exact bv_I_up (bv_I_any (bv_I_any (bv_I_any hI (by decide)) (by decide)) (by decide)) (by omega) (fun e => absurd e (by decide)) (fun e => absurd e (by decide)) (fun e => absurd e (by decide)) (fun e => absurd e (by decide)) (fun e => absurd e (by decide)) (fun e => absurd e (by decide)) (fun e => absurd e (by decide)) (fun e => absurd e (by decide)) (fun e => absurd e (by decide)) (fun _ => ⟨c + 1, by omega, by rw [h5]; exact nI_1 c⟩)
    · exact bv_I_mono hI (by omega)
  · exact bv_I_mono hI (by omega)
theorem bv_I_heir {n : Nat} {X : bv_X} (hI : bv_I n X) (p0 p1 p2 : Int32) : bv_I (n + 1) (sp_heir X p0 p1 p2).2.2 := by
  unfold sp_heir
  split
  · exact bv_I_mono (bv_I_any hI (by decide)) (by omega)
  · exact bv_I_mono hI (by omega)
theorem bv_I_die {n : Nat} {X : bv_X} (hI : bv_I n X) (p0 : Int32) : bv_I (n + 1) (sp_die X p0).2.2 := by
  unfold sp_die
  split
  · split
    · refine bv_I_mono (bv_I_dp ?_) (Nat.le_succ n)
      exact bv_I_up hI (Nat.le_refl _) (fun e => absurd e (by decide)) (fun e => absurd e (by decide)) (fun _ => Or.inr rfl) (fun e => absurd e (by decide)) (fun e => absurd e (by decide)) (fun e => absurd e (by decide)) (fun e => absurd e (by decide)) (fun e => absurd e (by decide)) (fun e => absurd e (by decide)) (fun e => absurd e (by decide))
    · exact bv_I_mono hI (by omega)
  · exact bv_I_mono hI (by omega)
theorem bv_I_order {n : Nat} {X : bv_X} (hI : bv_I n X) (p0 p1 p2 p3 : Int32) : bv_I (n + 1) (sp_order X p0 p1 p2 p3).2.2 := by
  unfold sp_order
  split
  · rename_i h
    obtain ⟨j, hj, rfl⟩ := bv_of8 (bv_rb_of h.1)
    split
    · exact bv_I_mono hI (by omega)
    · rename_i h2
      obtain ⟨c, h4, h5⟩ := bv_I_cnt hI
      have h6 := bv_lt_ne (b := 30) h5 h4 (fun e => h2 (Or.inr e))
      have hI1 : bv_I n (bv_up X 4 (bv_cnt X) (nI j)) := bv_I_up hI (Nat.le_refl _) (fun e => absurd e (by decide)) (fun e => absurd e (by decide)) (fun e => absurd e (by decide)) (fun e => absurd e (by decide)) (fun _ => ⟨j, hj, rfl⟩) (fun e => absurd e (by decide)) (fun e => absurd e (by decide)) (fun e => absurd e (by decide)) (fun e => absurd e (by decide)) (fun e => absurd e (by decide))
      have hI2 : bv_I n (bv_up (bv_up (bv_up (bv_up (bv_up X 4 (bv_cnt X) (nI j)) 5 (bv_cnt X) p1) 6 (bv_cnt X) p2) 7 (bv_cnt X) p3) 8 (bv_cnt X) 1) := bv_I_up (bv_I_any (bv_I_any (bv_I_any hI1 (by decide)) (by decide)) (by decide)) (Nat.le_refl _) (fun e => absurd e (by decide)) (fun e => absurd e (by decide)) (fun e => absurd e (by decide)) (fun _ => Or.inr rfl) (fun e => absurd e (by decide)) (fun e => absurd e (by decide)) (fun e => absurd e (by decide)) (fun e => absurd e (by decide)) (fun e => absurd e (by decide)) (fun e => absurd e (by decide))
      exact bv_I_up hI2 (by omega) (fun _ e => absurd e (by decide)) (fun _ _ => ⟨c + 1, by omega, by rw [h5]; exact nI_1 c⟩) (fun e => absurd e (by decide)) (fun e => absurd e (by decide)) (fun e => absurd e (by decide)) (fun e => absurd e (by decide)) (fun e => absurd e (by decide)) (fun e => absurd e (by decide)) (fun e => absurd e (by decide)) (fun e => absurd e (by decide))
  · exact bv_I_mono hI (by omega)
theorem bv_I_lift {n : Nat} {X : bv_X} (hI : bv_I n X) (p0 : Int32) : bv_I (n + 1) (sp_lift X p0).2.2 := by
  unfold sp_lift
  split
  · split
    · exact bv_I_mono hI (by omega)
    · exact bv_I_up hI (by omega) (fun e => absurd e (by decide)) (fun e => absurd e (by decide)) (fun e => absurd e (by decide)) (fun _ => Or.inl rfl) (fun e => absurd e (by decide)) (fun e => absurd e (by decide)) (fun e => absurd e (by decide)) (fun e => absurd e (by decide)) (fun e => absurd e (by decide)) (fun e => absurd e (by decide))
  · exact bv_I_mono hI (by omega)
theorem bv_I_enter {n : Nat} {X : bv_X} (hI : bv_I n X) (p0 p1 p2 : Int32) : bv_I (n + 1) (sp_enter X p0 p1 p2).2.2 := by
  unfold sp_enter
  split
  · split
    · unfold bv_en
      refine bv_I_up (bv_I_any (bv_I_any hI (by decide)) (by decide)) (by omega) (fun e => absurd e (by decide)) (fun e => absurd e (by decide)) (fun e => absurd e (by decide)) (fun e => absurd e (by decide)) (fun e => absurd e (by decide)) (fun e => absurd e (by decide)) (fun e => absurd e (by decide)) (fun e => absurd e (by decide)) (fun _ => ?_) (fun e => absurd e (by decide))
      split
      · exact Or.inr rfl
      · exact Or.inl rfl
    · exact bv_I_mono hI (by omega)
  · exact bv_I_mono hI (by omega)
theorem bv_I_may {n : Nat} {X : bv_X} (hI : bv_I n X) (p0 p1 : Int32) : bv_I (n + 1) (sp_may X p0 p1).2.2 := by
  unfold sp_may
  split <;> exact bv_I_mono hI (by omega)
theorem bv_I_mayAll {n : Nat} {X : bv_X} (hI : bv_I n X) (p0 : Int32) : bv_I (n + 1) (sp_mayAll X p0).2.2 := by
  unfold sp_mayAll
  split <;> exact bv_I_mono hI (by omega)
theorem bv_I_holder {n : Nat} {X : bv_X} (hI : bv_I n X) (p0 : Int32) : bv_I (n + 1) (sp_holder X p0).2.2 := by
  unfold sp_holder
  split <;> exact bv_I_mono hI (by omega)
theorem bv_I_notices {n : Nat} {X : bv_X} (hI : bv_I n X) (p0 : Int32) : bv_I (n + 1) (sp_notices X p0).2.2 := by
  unfold sp_notices
  split <;> exact bv_I_mono hI (by omega)
theorem bv_I_refusals {n : Nat} {X : bv_X} (hI : bv_I n X) (p0 : Int32) : bv_I (n + 1) (sp_refusals X p0).2.2 := by
  unfold sp_refusals
  split <;> exact bv_I_mono hI (by omega)
theorem bv_I_binding {n : Nat} {X : bv_X} (hI : bv_I n X) (p0 : Int32) : bv_I (n + 1) (sp_binding X p0).2.2 := by
  unfold sp_binding
  split <;> exact bv_I_mono hI (by omega)
/-- the start -/
theorem bv_I_0 : bv_I 0 (fun _ _ => 0) :=
  ⟨⟨0, by omega, rfl⟩, ⟨0, by omega, rfl⟩, fun _ _ => Or.inl rfl, fun _ _ => ⟨Or.inl rfl, 0, by omega, rfl⟩, fun _ _ => ⟨Or.inl rfl, ⟨0, by omega, rfl⟩, ⟨0, by omega, rfl⟩, Or.inl rfl, 0, by omega, rfl⟩⟩
