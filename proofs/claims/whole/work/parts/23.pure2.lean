/-! ===== PURE, for the vault's and the model's own helpers ===== -/
theorem bI_c {c d : Prop} [Decidable c] [Decidable d] (h : c ↔ d) : bI c = bI d := by
  unfold bI
  by_cases q : c
  · rw [if_pos q, if_pos (h.mp q)]
  · rw [if_neg q, if_neg (fun q2 => q (h.mpr q2))]
theorem bv_has_if {x : Int32} {o : Nat} (v : Nat → Int32) (ho : o < 30) (hh : ¬ x ≤ nI o) : (if ¬ nI o < 0 ∧ ¬ x ≤ nI o ∧ ¬ 30 ≤ nI o then v (nI o).toNatClampNeg else -1) = v o := by
  rw [if_pos ⟨nI_pos (by omega), hh, nI_ge (a := o) (b := 30) ho (by decide)⟩, bv_cl ho (by decide)]
theorem bv_vw_prx {n : Nat} {X : bv_X} (hI : bv_I n X) {j q c5 : Nat} (hj : j < 8) (hc : c5 ≤ 5) (ec : X 15 j = nI c5) : bv_px (bv_vw X (16 + j)) (bv_vw X (24 + j)) (bv_vw X (32 + j)) (nI q) (X 0 0) c5 = bv_prx X j q := by
  unfold bv_prx
  rw [ec, nI_clamp (show c5 < 2 ^ 31 by omega)]
  refine bv_px_c fun i hi => ⟨?_, ?_, ?_⟩
  · exact bv_vw_p X (k := 0) (by decide) hj (by omega)
  · have h := bv_vw_p X (k := 1) (i := i) (by decide) hj (by omega)
    rwa [show 16 + 8 * 1 + j = 24 + j by omega] at h
  · have h := bv_vw_p X (k := 2) (i := i) (by decide) hj (by omega)
    rwa [show 16 + 8 * 2 + j = 32 + j by omega] at h
theorem bv_nI_inj {a b : Nat} (ha : a < 2 ^ 31) (hb : b < 2 ^ 31) (h : nI a = nI b) : a = b := (nI_eq ha hb).mp h
theorem bv_mf_e {X : bv_X} {j q d : Nat} (hd : d < 16) (ed : X 10 j = nI d) (ed2 : bv_hd X j = d) (hq : q < 16) (h1 : X 1 q = 0) (hb : bv_bd X (nI j) = -1) : bv_mf X j q ↔ (nI q = X 10 j ∨ (¬ X 1 d = 0 ∧ bv_hr X q d)) := by
  unfold bv_mf
  rw [if_neg (fun h => h hb), ed2]
  constructor
  · rintro ⟨-, h⟩
    by_cases h2 : X 1 d = 0
    · rw [if_pos h2] at h
      exact Or.inl h
    · rw [if_neg h2] at h
      exact Or.inr ⟨h2, h⟩
  · intro h
    refine ⟨h1, ?_⟩
    rcases h with h | ⟨h2, h⟩
    · have e : q = d := bv_nI_inj (by omega) (by omega) (h.trans ed)
      subst e
      rw [if_pos h1]
      exact h
    · rw [if_neg h2]
      exact h
