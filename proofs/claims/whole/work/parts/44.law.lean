/-! ===== the law: its loop, its start ===== -/
theorem bv_more {t L : Nat} (hL : L ≤ 2560) (ht : t ≤ 512) (h : ¬ Int32.ofNat L - 5 < nI (5 * t)) : 5 * t + 5 ≤ L := by
  rcases Nat.lt_or_ge L (5 * t + 5) with q | q
  · refine absurd ?_ h
    rcases Nat.lt_or_ge L 5 with r | r
    · rw [Int32.lt_iff_toInt_lt, nI_toInt (show 5 * t < 2 ^ 31 by omega)]
      have e : (Int32.ofNat L - 5).toInt < 0 := by
        rcases (show L = 0 ∨ L = 1 ∨ L = 2 ∨ L = 3 ∨ L = 4 by omega) with rfl | rfl | rfl | rfl | rfl <;> decide
      omega
    · rw [show Int32.ofNat L - 5 = nI (L - 5) from pk_sub r]
      exact nI_lt (by omega) (by omega)
  · exact q
set_option maxHeartbeats 1000000 in
set_option maxRecDepth 100000 in
/-- the loop over the script -/
theorem bv_law_loop {p : Program} {e : Env} {s : State} {m : MethodId} {below : List Frame} {meth : Method} {c : Code} (l : Launch) (hlt : l.stackTraces = false) {b L : Nat} {xs : Nat → Int32} (hL : L ≤ 2560) (C0 : lw_At p s m meth c b L xs) (G : bv_G) (hz : bv_n G = s.heap.size) (hK : bv_K G s) (hE : bv_En G s s.heap) :
    ∀ (n t : Nat) (X : bv_X) (z : bv_Z) (H : Heap) (locs : List Loc) (ls : Array Slot), t + n = 512 → bv_I t X → bv_H G (bv_vw X) X z H → va_S (bv_A G) s.heap H locs → lv_has ls 7 [(4, .int (nI (5 * t))), (0, .ref b), (1, .ref (bv_a G 0)), (2, .ref (bv_a G 43)), (3, .ref (bv_a G 62))] → W p l e room_1 s m #[Value.ref b] below meth c H locs (63 + 6 * t) (814 + 36 * t) (lw_Z below #[Value.ref b] s) (F0 m 23 ls []) := by
  obtain ⟨hx, hb, hr, hml, hown, hts, hX, hbl, hlocks, hgv⟩ := id C0
  have hbA : ¬ bv_A G b := by unfold bv_A; rw [hz]; exact Nat.not_le.mpr hbl
  intro n
  induction n with
  | zero =>
    intro t X z H locs ls hn hI hP hS hl
    refine lv_iload hx hb dL_law_23 (lv_at hl 0 rfl) ?_
    refine lv_aload_n hx hb dL_law_25 rfl (lv_at hl 1 rfl) ?_
    refine va_slen hx hb hX hbl hbA hS dL_law_26 ?_
    refine lv_iconst (v := 5) hx hb dL_law_27 (by decide) ?_
    refine lv_isub hx hb dL_law_28 ?_
    refine lv_icmp_gt (tgt := 1384) hx hb dL_law_29 (by decide) (fun c_1 => ?_) (fun c_1 => ?_)
    · refine lv_iconst (v := 1) hx hb dL_law_1384 (by decide) ?_
      refine W.widen (k := 640723) (n := 7173936) (by omega) (by omega) ?_
      refine va_forget (fun q h => by have h2 := hS.2.2 q h; unfold bv_A at h2; rw [hz] at h2; exact h2) ?_
      exact lw_ret hx hb hr hlocks dL_law_1385
    · have := bv_more hL (by omega) c_1
      omega
  | succ n ih =>
    intro t X z H locs ls hn hI hP hS hl
    refine lv_iload hx hb dL_law_23 (lv_at hl 0 rfl) ?_
    refine lv_aload_n hx hb dL_law_25 rfl (lv_at hl 1 rfl) ?_
    refine va_slen hx hb hX hbl hbA hS dL_law_26 ?_
    refine lv_iconst (v := 5) hx hb dL_law_27 (by decide) ?_
    refine lv_isub hx hb dL_law_28 ?_
    refine lv_icmp_gt (tgt := 1384) hx hb dL_law_29 (by decide) (fun c_1 => ?_) (fun c_1 => ?_)
    · refine lv_iconst (v := 1) hx hb dL_law_1384 (by decide) ?_
      refine W.widen (k := 640723) (n := 7173936) (by omega) (by omega) ?_
      refine va_forget (fun q h => by have h2 := hS.2.2 q h; unfold bv_A at h2; rw [hz] at h2; exact h2) ?_
      exact lw_ret hx hb hr hlocks dL_law_1385
    have h5 := bv_more hL (by omega) c_1
    have cont : ∀ (X' : bv_X) (z' : bv_Z) (H : Heap) (locs : List Loc) (ls : Array Slot), bv_I (t + 1) X' → bv_H G (bv_vw X') X' z' H → va_S (bv_A G) s.heap H locs → lv_has ls 7 [(4, .int (nI (5 * t))), (0, .ref b), (1, .ref (bv_a G 0)), (2, .ref (bv_a G 43)), (3, .ref (bv_a G 62))] → W p l e room_1 s m #[Value.ref b] below meth c H locs (63 + 6 * t + 6) (814 + 36 * t + 36) (lw_Z below #[Value.ref b] s) (F0 m 1378 ls []) := by
      intro X' z' H locs ls hI hP hS hl
      refine lv_iinc (v := nI (5 * (t + 1))) (lv' := [(4, .int (nI (5 * (t + 1)))), (0, .ref b), (1, .ref (bv_a G 0)), (2, .ref (bv_a G 43)), (3, .ref (bv_a G 62))]) hx hb dL_law_1378 hl (k := 0) rfl (show nI (5 * t) + nI 5 = _ by rw [nI_add]; rfl) (by decide) rfl (fun ls hl => ?_)
      refine lv_goto (tgt := 23) hx hb dL_law_1381 (by decide) ?_
      refine W.widen (k := 63 + 6 * (t + 1)) (n := 814 + 36 * (t + 1)) (by omega) (by omega) ?_
      exact ih (t + 1) X' z' H locs ls (by omega) hI hP hS hl
    have hv0 : vp_in (nI (5 * t)) L := vp_in_nI (by omega) (by omega)
    refine lv_aload_n hx hb dL_law_32 rfl (lv_at hl 1 rfl) ?_
    refine lv_iload hx hb dL_law_33 (lv_at hl 0 rfl) ?_
    refine va_sld hx hb hX hbl hbA hS hv0 dL_law_35 ?_
    refine lv_bipush (v := 31) hx hb dL_law_36 (by decide) ?_
    refine lv_iand hx hb dL_law_38 ?_
    generalize (xs (nI (5 * t)).toNatClampNeg &&& 31) = y
    by_cases y0 : y = 0
    · subst y0
      refine lv_tableIn (off := 85) (tgt := 124) hx hb dL_law_39 (by decide) (by decide) (by rfl) (by decide) ?_
      exact bv_case_pass l hlt C0 G hz hK hE X z hI (by omega) h5 hL (by omega) (by omega) hP hS hl cont
    by_cases y1 : y = 1
    · subst y1
      refine lv_tableIn (off := 141) (tgt := 180) hx hb dL_law_39 (by decide) (by decide) (by rfl) (by decide) ?_
      exact bv_case_rent l hlt C0 G hz hK hE X z hI (by omega) h5 hL (by omega) (by omega) hP hS hl cont
    by_cases y2 : y = 2
    · subst y2
      refine lv_tableIn (off := 221) (tgt := 260) hx hb dL_law_39 (by decide) (by decide) (by rfl) (by decide) ?_
      exact bv_case_extend l hlt C0 G hz hK hE X z hI (by omega) h5 hL (by omega) (by omega) hP hS hl cont
    by_cases y3 : y = 3
    · subst y3
      refine lv_tableIn (off := 289) (tgt := 328) hx hb dL_law_39 (by decide) (by decide) (by rfl) (by decide) ?_
      exact bv_case_giveBack l hlt C0 G hz hK hE X z hI (by omega) h5 hL (by omega) (by omega) hP hS hl cont
    by_cases y4 : y = 4
    · subst y4
      refine lv_tableIn (off := 357) (tgt := 396) hx hb dL_law_39 (by decide) (by decide) (by rfl) (by decide) ?_
      exact bv_case_drill l hlt C0 G hz hK hE X z hI (by omega) h5 hL (by omega) (by omega) hP hS hl cont
    by_cases y5 : y = 5
    · subst y5
      refine lv_tableIn (off := 437) (tgt := 476) hx hb dL_law_39 (by decide) (by decide) (by rfl) (by decide) ?_
      exact bv_case_fetch l hlt C0 G hz hK hE X z hI (by omega) h5 hL (by omega) (by omega) hP hS hl cont
    by_cases y6 : y = 6
    · subst y6
      refine lv_tableIn (off := 505) (tgt := 544) hx hb dL_law_39 (by decide) (by decide) (by rfl) (by decide) ?_
      exact bv_case_proxy l hlt C0 G hz hK hE X z hI (by omega) h5 hL (by omega) (by omega) hP hS hl cont
    by_cases y7 : y = 7
    · subst y7
      refine lv_tableIn (off := 597) (tgt := 636) hx hb dL_law_39 (by decide) (by decide) (by rfl) (by decide) ?_
      exact bv_case_heir l hlt C0 G hz hK hE X z hI (by omega) h5 hL (by omega) (by omega) hP hS hl cont
    by_cases y8 : y = 8
    · subst y8
      refine lv_tableIn (off := 700) (tgt := 739) hx hb dL_law_39 (by decide) (by decide) (by rfl) (by decide) ?_
      exact bv_case_die l hlt C0 G hz hK hE X z hI (by omega) h5 hL (by omega) (by omega) hP hS hl cont
    by_cases y9 : y = 9
    · subst y9
      refine lv_tableIn (off := 756) (tgt := 795) hx hb dL_law_39 (by decide) (by decide) (by rfl) (by decide) ?_
      exact bv_case_order l hlt C0 G hz hK hE X z hI (by omega) h5 hL (by omega) (by omega) hP hS hl cont
    by_cases y10 : y = 10
    · subst y10
      refine lv_tableIn (off := 848) (tgt := 887) hx hb dL_law_39 (by decide) (by decide) (by rfl) (by decide) ?_
      exact bv_case_lift l hlt C0 G hz hK hE X z hI (by omega) h5 hL (by omega) (by omega) hP hS hl cont
    by_cases y11 : y = 11
    · subst y11
      refine lv_tableIn (off := 911) (tgt := 950) hx hb dL_law_39 (by decide) (by decide) (by rfl) (by decide) ?_
      exact bv_case_enter l hlt C0 G hz hK hE X z hI (by omega) h5 hL (by omega) (by omega) hP hS hl cont
    by_cases y12 : y = 12
    · subst y12
      refine lv_tableIn (off := 991) (tgt := 1030) hx hb dL_law_39 (by decide) (by decide) (by rfl) (by decide) ?_
      exact bv_case_may l hlt C0 G hz hK hE X z hI (by omega) h5 hL (by omega) (by omega) hP hS hl cont
    by_cases y13 : y = 13
    · subst y13
      refine lv_tableIn (off := 1059) (tgt := 1098) hx hb dL_law_39 (by decide) (by decide) (by rfl) (by decide) ?_
      exact bv_case_mayAll l hlt C0 G hz hK hE X z hI (by omega) h5 hL (by omega) (by omega) hP hS hl cont
    by_cases y14 : y = 14
    · subst y14
      refine lv_tableIn (off := 1115) (tgt := 1154) hx hb dL_law_39 (by decide) (by decide) (by rfl) (by decide) ?_
      exact bv_case_holder l hlt C0 G hz hK hE X z hI (by omega) h5 hL (by omega) (by omega) hP hS hl cont
    by_cases y15 : y = 15
    · subst y15
      refine lv_tableIn (off := 1171) (tgt := 1210) hx hb dL_law_39 (by decide) (by decide) (by rfl) (by decide) ?_
      exact bv_case_notices l hlt C0 G hz hK hE X z hI (by omega) h5 hL (by omega) (by omega) hP hS hl cont
    by_cases y16 : y = 16
    · subst y16
      refine lv_tableIn (off := 1227) (tgt := 1266) hx hb dL_law_39 (by decide) (by decide) (by rfl) (by decide) ?_
      exact bv_case_refusals l hlt C0 G hz hK hE X z hI (by omega) h5 hL (by omega) (by omega) hP hS hl cont
    by_cases y17 : y = 17
    · subst y17
      refine lv_tableIn (off := 1283) (tgt := 1322) hx hb dL_law_39 (by decide) (by decide) (by rfl) (by decide) ?_
      exact bv_case_binding l hlt C0 G hz hK hE X z hI (by omega) h5 hL (by omega) (by omega) hP hS hl cont
    refine lv_tableOut (tgt := 1378) hx hb dL_law_39 (by
      have z0 : y.toInt ≠ 0 := fun h => y0 (Int32.toInt_inj.mp h)
      have z1 : y.toInt ≠ 1 := fun h => y1 (Int32.toInt_inj.mp h)
      have z2 : y.toInt ≠ 2 := fun h => y2 (Int32.toInt_inj.mp h)
      have z3 : y.toInt ≠ 3 := fun h => y3 (Int32.toInt_inj.mp h)
      have z4 : y.toInt ≠ 4 := fun h => y4 (Int32.toInt_inj.mp h)
      have z5 : y.toInt ≠ 5 := fun h => y5 (Int32.toInt_inj.mp h)
      have z6 : y.toInt ≠ 6 := fun h => y6 (Int32.toInt_inj.mp h)
      have z7 : y.toInt ≠ 7 := fun h => y7 (Int32.toInt_inj.mp h)
      have z8 : y.toInt ≠ 8 := fun h => y8 (Int32.toInt_inj.mp h)
      have z9 : y.toInt ≠ 9 := fun h => y9 (Int32.toInt_inj.mp h)
      have z10 : y.toInt ≠ 10 := fun h => y10 (Int32.toInt_inj.mp h)
      have z11 : y.toInt ≠ 11 := fun h => y11 (Int32.toInt_inj.mp h)
      have z12 : y.toInt ≠ 12 := fun h => y12 (Int32.toInt_inj.mp h)
      have z13 : y.toInt ≠ 13 := fun h => y13 (Int32.toInt_inj.mp h)
      have z14 : y.toInt ≠ 14 := fun h => y14 (Int32.toInt_inj.mp h)
      have z15 : y.toInt ≠ 15 := fun h => y15 (Int32.toInt_inj.mp h)
      have z16 : y.toInt ≠ 16 := fun h => y16 (Int32.toInt_inj.mp h)
      have z17 : y.toInt ≠ 17 := fun h => y17 (Int32.toInt_inj.mp h)
      omega) (by decide) ?_
    refine W.widen (k := 63 + 6 * t + 6) (n := 814 + 36 * t + 36) (by omega) (by omega) ?_
    exact cont X z H locs ls (bv_I_mono hI (by omega)) hP hS hl
theorem bv_vw0 : bv_vw (fun _ _ => 0) = bv_S0 := by
  funext r j
  unfold bv_vw bv_S0
  by_cases h : r = 10
  · rw [if_pos h, if_pos h, if_pos rfl]
  · rw [if_neg h, if_neg h]
    (repeat' split) <;> rfl
def bv_aF (a u : Nat → Nat) (q1 q2 : Nat) : Nat → Nat := fun k => if k < 43 then a k else if k = 43 then q1 else if k < 62 then u k else q2
def bv_W9 (D : va_G) (t : Nat → ClassId) (a u : Nat → Nat) (q1 q2 : Nat) : va_W := bv_W2 D t a ++ bv_B3 t q1 u ++ [(q2, .inl (t 3, 1, .inr (.inl (fun _ => 0))))]
theorem bv_W9_hi {D : va_G} {t : Nat → ClassId} {a u : Nat → Nat} {q1 q2 : Nat} (i : Nat) : (bv_W9 D t a u q1 q2)[43 + i]? = (bv_B3 t q1 u ++ [(q2, .inl (t 3, 1, .inr (.inl (fun _ => 0))))])[i]? := by
  have h : (bv_W2 D t a).length = 43 := by simp [bv_W2]
  unfold bv_W9
  rw [List.append_assoc, List.getElem?_append_right (by omega), h, Nat.add_sub_cancel_left]
theorem bv_W9_lo {D : va_G} {t : Nat → ClassId} {a u : Nat → Nat} {q1 q2 k : Nat} (hk : k < 43) : (bv_W9 D t a u q1 q2)[k]? = some (a k, bv_E ((D, a, t, 0) : bv_G) bv_S0 (fun _ _ => 0) (0, 0) k) := by
  have h : (bv_W2 D t a).length = 43 := by simp [bv_W2]
  unfold bv_W9
  rw [List.append_assoc, List.getElem?_append_left (by omega)]
  exact bv_W2_get hk
set_option maxHeartbeats 1000000 in
set_option maxRecDepth 100000 in
theorem bv_start {D : va_G} {t : Nat → ClassId} {a u : Nat → Nat} {q1 q2 N0 : Nat} {H : Heap} (hP : va_P D vwCl (bv_W9 D t a u q1 q2) H) (hD : va_D (fun q => N0 ≤ q) (bv_W9 D t a u q1 q2)) : bv_ap ((D, bv_aF a u q1 q2, t, N0) : bv_G) ∧ bv_H ((D, bv_aF a u q1 q2, t, N0) : bv_G) (bv_vw (fun _ _ => 0)) (fun _ _ => 0) (0, 0) H := by
  have hget : ∀ k, k < 63 → ∃ e, (bv_W9 D t a u q1 q2)[k]? = some (bv_aF a u q1 q2 k, e) := by
    intro k hk
    by_cases h : k < 43
    · exact ⟨_, by rw [bv_W9_lo h, bv_aF, if_pos h]⟩
    · obtain ⟨i, rfl⟩ : ∃ i, k = 43 + i := ⟨k - 43, by omega⟩
      rw [bv_W9_hi]
      match i, hk with
      | 0, _ => exact ⟨_, rfl⟩
      | 1, _ => exact ⟨_, rfl⟩
      | 2, _ => exact ⟨_, rfl⟩
      | 3, _ => exact ⟨_, rfl⟩
      | 4, _ => exact ⟨_, rfl⟩
      | 5, _ => exact ⟨_, rfl⟩
      | 6, _ => exact ⟨_, rfl⟩
      | 7, _ => exact ⟨_, rfl⟩
      | 8, _ => exact ⟨_, rfl⟩
      | 9, _ => exact ⟨_, rfl⟩
      | 10, _ => exact ⟨_, rfl⟩
      | 11, _ => exact ⟨_, rfl⟩
      | 12, _ => exact ⟨_, rfl⟩
      | 13, _ => exact ⟨_, rfl⟩
      | 14, _ => exact ⟨_, rfl⟩
      | 15, _ => exact ⟨_, rfl⟩
      | 16, _ => exact ⟨_, rfl⟩
      | 17, _ => exact ⟨_, rfl⟩
      | 18, _ => exact ⟨_, rfl⟩
      | 19, _ => exact ⟨_, rfl⟩
      | i + 20, hk => exact absurd hk (by omega)
  refine ⟨⟨fun i j hi hj h => ?_, fun i hi => ?_⟩, ?_⟩
  · obtain ⟨e1, h1⟩ := hget i hi
    obtain ⟨e2, h2⟩ := hget j hj
    exact hD.1 i j _ _ h1 h2 h
  · obtain ⟨e1, h1⟩ := hget i hi
    exact hD.2 i _ h1
  · rw [bv_vw0]
    intro k q hq
    have hk : k < 63 := by
      have := (List.getElem?_eq_some_iff.mp hq).1
      rwa [bv_w_len] at this
    rw [bv_get hk] at hq
    cases hq
    match k, hk with
    | 0, _ => exact hP 0 _ (bv_W9_lo (by decide))
    | 1, _ => exact bv_row (f := fun j => some (a (11 + j))) (fun j hj => by rcases (show j = 0 ∨ j = 1 ∨ j = 2 ∨ j = 3 ∨ j = 4 ∨ j = 5 ∨ j = 6 ∨ j = 7 by omega) with rfl | rfl | rfl | rfl | rfl | rfl | rfl | rfl <;> rfl) (hP 1 _ (bv_W9_lo (by decide)))
    | 2, _ => exact hP 2 _ (bv_W9_lo (by decide))
    | 3, _ => exact hP 3 _ (bv_W9_lo (by decide))
    | 4, _ => exact hP 4 _ (bv_W9_lo (by decide))
    | 5, _ => exact hP 5 _ (bv_W9_lo (by decide))
    | 6, _ => exact hP 6 _ (bv_W9_lo (by decide))
    | 7, _ => exact hP 7 _ (bv_W9_lo (by decide))
    | 8, _ => exact hP 8 _ (bv_W9_lo (by decide))
    | 9, _ => exact hP 9 _ (bv_W9_lo (by decide))
    | 10, _ => exact hP 10 _ (bv_W9_lo (by decide))
    | 11, _ => exact hP 11 _ (bv_W9_lo (by decide))
    | 12, _ => exact hP 12 _ (bv_W9_lo (by decide))
    | 13, _ => exact hP 13 _ (bv_W9_lo (by decide))
    | 14, _ => exact hP 14 _ (bv_W9_lo (by decide))
    | 15, _ => exact hP 15 _ (bv_W9_lo (by decide))
    | 16, _ => exact hP 16 _ (bv_W9_lo (by decide))
    | 17, _ => exact hP 17 _ (bv_W9_lo (by decide))
    | 18, _ => exact hP 18 _ (bv_W9_lo (by decide))
    | 19, _ => exact hP 19 _ (bv_W9_lo (by decide))
    | 20, _ => exact hP 20 _ (bv_W9_lo (by decide))
    | 21, _ => exact hP 21 _ (bv_W9_lo (by decide))
    | 22, _ => exact hP 22 _ (bv_W9_lo (by decide))
    | 23, _ => exact hP 23 _ (bv_W9_lo (by decide))
    | 24, _ => exact hP 24 _ (bv_W9_lo (by decide))
    | 25, _ => exact hP 25 _ (bv_W9_lo (by decide))
    | 26, _ => exact hP 26 _ (bv_W9_lo (by decide))
    | 27, _ => exact hP 27 _ (bv_W9_lo (by decide))
    | 28, _ => exact hP 28 _ (bv_W9_lo (by decide))
    | 29, _ => exact hP 29 _ (bv_W9_lo (by decide))
    | 30, _ => exact hP 30 _ (bv_W9_lo (by decide))
    | 31, _ => exact hP 31 _ (bv_W9_lo (by decide))
    | 32, _ => exact hP 32 _ (bv_W9_lo (by decide))
    | 33, _ => exact hP 33 _ (bv_W9_lo (by decide))
    | 34, _ => exact hP 34 _ (bv_W9_lo (by decide))
    | 35, _ => exact hP 35 _ (bv_W9_lo (by decide))
    | 36, _ => exact hP 36 _ (bv_W9_lo (by decide))
    | 37, _ => exact hP 37 _ (bv_W9_lo (by decide))
    | 38, _ => exact hP 38 _ (bv_W9_lo (by decide))
    | 39, _ => exact hP 39 _ (bv_W9_lo (by decide))
    | 40, _ => exact hP 40 _ (bv_W9_lo (by decide))
    | 41, _ => exact hP 41 _ (bv_W9_lo (by decide))
    | 42, _ => exact hP 42 _ (bv_W9_lo (by decide))
    | 43, _ => exact hP 43 _ (bv_W9_hi 0)
    | 44, _ => exact hP 44 _ (bv_W9_hi 1)
    | 45, _ => exact hP 45 _ (bv_W9_hi 2)
    | 46, _ => exact hP 46 _ (bv_W9_hi 3)
    | 47, _ => exact hP 47 _ (bv_W9_hi 4)
    | 48, _ => exact hP 48 _ (bv_W9_hi 5)
    | 49, _ => exact hP 49 _ (bv_W9_hi 6)
    | 50, _ => exact hP 50 _ (bv_W9_hi 7)
    | 51, _ => exact hP 51 _ (bv_W9_hi 8)
    | 52, _ => exact hP 52 _ (bv_W9_hi 9)
    | 53, _ => exact hP 53 _ (bv_W9_hi 10)
    | 54, _ => exact hP 54 _ (bv_W9_hi 11)
    | 55, _ => exact hP 55 _ (bv_W9_hi 12)
    | 56, _ => exact hP 56 _ (bv_W9_hi 13)
    | 57, _ => exact hP 57 _ (bv_W9_hi 14)
    | 58, _ => exact hP 58 _ (bv_W9_hi 15)
    | 59, _ => exact hP 59 _ (bv_W9_hi 16)
    | 60, _ => exact hP 60 _ (bv_W9_hi 17)
    | 61, _ => exact hP 61 _ (bv_W9_hi 18)
    | 62, _ => exact hP 62 _ (bv_W9_hi 19)
    | k + 63, hk => exact absurd hk (by omega)
set_option maxRecDepth 20000 in
theorem bv_nw_in : ∀ w ∈ bv_nw, w ∈ lw_tbl := fun w h => bv_mem bv_nw [65, 91, 96, 98, 100, 102, 104, 106, 108, 263, 276, 290, 306, 314, 322, 338, 352, 361, 369, 388, 415, 434, 443, 448, 460, 477, 482, 487, 166, 235, 463, 168, 170, 172] (by decide +kernel) w h
set_option maxRecDepth 20000 in
theorem bv_st_in : ∀ w ∈ bv_st.map (fun q => Cond.stringRef RX2 q.1 q.2), w ∈ lw_tbl := fun w h => bv_mem _ [205, 242, 267, 275, 294, 356, 380, 381, 386, 387, 399, 404, 412, 413, 414, 426, 442, 447, 470, 481] (by decide +kernel) w h
set_option maxHeartbeats 1000000 in
set_option maxRecDepth 100000 in
theorem bv_env {s : State} {b : Nat} (hts : ∀ w ∈ lw_tbl, w.before #[Value.ref b] s = true) (hgv : (Jvm.Cond.and given_1 narrow_1).before #[Value.ref b] s = true) (G : bv_G) (hz : bv_n G = s.heap.size) : bv_En G s s.heap := by
  have hs := flat_of_before _ hgv
  have hA : ∀ a : Nat, a < s.heap.size → ¬ bv_A G a := fun a h => by unfold bv_A; rw [hz]; exact Nat.not_le.mpr h
  refine ⟨fun w hw => va_Nw.of (bv_wk_tab (bv_nw_wk w hw)) (hts w (bv_nw_in w hw)), fun q hq => ?_, fun q hq => ?_, va_AO.of (hts (.arrayOver (.object "BoxVault$Box")) (List.mem_of_getElem? (i := 62) (by decide +kernel))), vx_Zqof (hts (.laysStatic Bundle.tN "UNASSIGNED_STACK" Bundle.steD) (List.mem_of_getElem? (i := 191) (by decide +kernel))) (hts (.initialized Bundle.tN) (List.mem_of_getElem? (i := 46) (by decide +kernel))) (hs _ (by decide +kernel)) hA, vx_Zqof (hts (.laysStatic Bundle.tN "SUPPRESSED_SENTINEL" Bundle.listD) (List.mem_of_getElem? (i := 193) (by decide +kernel))) (hts (.initialized Bundle.tN) (List.mem_of_getElem? (i := 46) (by decide +kernel))) (hs _ (by decide +kernel)) hA⟩
  · have h1 : (Cond.stringRef RX2 q.1 q.2).before #[Value.ref b] s = true := hts _ (bv_st_in _ (List.mem_map_of_mem (f := fun q : Nat × String => Cond.stringRef RX2 q.1 q.2) hq))
    have h2 : (Cond.exactly (.string RX2 q.1) "java/lang/String").before #[Value.ref b] s = true := by
      clear h1
      simp only [bv_st, List.mem_cons, List.not_mem_nil, or_false] at hq
      rcases hq with rfl | rfl | rfl | rfl | rfl | rfl | rfl | rfl | rfl | rfl | rfl | rfl | rfl | rfl | rfl | rfl | rfl | rfl | rfl | rfl <;> exact hs _ (by decide +kernel)
    obtain ⟨a, c, cell, k, q1, -⟩ := Cond.exactly_spec (args := #[Value.ref b]) (first := s) (o := none) (s := s) (idx := []) h2
    exact ⟨a, vk_R.of h1 q1⟩
  · simp only [bv_nc, List.mem_cons, List.not_mem_nil, or_false] at hq
    rcases hq with rfl | rfl <;> exact va_Nc.of (hs _ (by decide +kernel))
theorem bv_arr {s : State} {b : Nat} {ty : FieldType} (h : (Cond.arrayClass ty).before #[Value.ref b] s = true) (hp : ∀ C, ty ≠ .object C) : ∃ cA, ArrOfT s cA ty ∧ va_RA s cA ty := by
  obtain ⟨cA, kA, comp, h1, h2, h3⟩ := Cond.arrayClass_spec h
  refine ⟨cA, fun n z => ⟨(fun k h => by cases h), kA, h2, comp, h3⟩, ?_⟩
  cases ty with
  | object C => exact absurd rfl (hp C)
  | _ => exact h1
theorem bv_arrq {s : State} {b : Nat} {C : String} (h : (Cond.arrayOver (.object C)).before #[Value.ref b] s = true) : ∃ cA, ArrOfT s cA (.object C) ∧ va_RA s cA (.object C) := by
  obtain ⟨comp, cA, kA, h1, -, h2, h3, h4⟩ := Cond.arrayOver_spec h
  exact ⟨cA, fun n z => ⟨(fun k h => by cases h), kA, h2, comp, h3⟩, kA, comp, h2, h3, h1, h4⟩
theorem bv_classes {s : State} {b : Nat} (hts : ∀ w ∈ lw_tbl, w.before #[Value.ref b] s = true) : ∃ (D : va_G) (t : Nat → ClassId), va_K D vwCl (bv_tl t) s := by
  obtain ⟨c0, i0, k0⟩ := u_known (C := RX0) (T := TX0) (N := 10) (n := 10) hts bv_in_x0 (hts (.instantiable RX0 10) (List.mem_of_getElem? (i := 90) (by decide +kernel)))
  obtain ⟨c1, i1, k1⟩ := u_known (C := RX1) (T := TX1) (N := 6) (n := 6) hts bv_in_x1 (hts (.instantiable RX1 6) (List.mem_of_getElem? (i := 64) (by decide +kernel)))
  obtain ⟨c2, i2, k2⟩ := u_known (C := RX2) (T := TX2) (N := 6) (n := 6) hts bv_in_x2 (hts (.instantiable RX2 6) (List.mem_of_getElem? (i := 54) (by decide +kernel)))
  obtain ⟨c3, i3, k3⟩ := u_known (C := RX3) (T := TX3) (N := 21) (n := 21) hts bv_in_x3 (hts (.instantiable RX3 21) (List.mem_of_getElem? (i := 541) (by decide +kernel)))
  obtain ⟨t0, h0⟩ := bv_arr (hts (.arrayClass .int) (List.mem_of_getElem? (i := 88) (by decide +kernel))) (fun C h => by cases h)
  obtain ⟨t1, h1⟩ := bv_arr (hts (.arrayClass .boolean) (List.mem_of_getElem? (i := 89) (by decide +kernel))) (fun C h => by cases h)
  obtain ⟨t2, h2⟩ := bv_arrq (hts (.arrayOver (.object "BoxVault$Box")) (List.mem_of_getElem? (i := 62) (by decide +kernel)))
  obtain ⟨t3, h3⟩ := bv_arr (hts (.arrayClass .long) (List.mem_of_getElem? (i := 736) (by decide +kernel))) (fun C h => by cases h)
  refine ⟨(fun k => [c0, c1, c2, c3].getD k c0, fun k => [i0, i1, i2, i3].getD k i0), fun k => [t0, t1, t2, t3].getD k t0, fun k q hq => ?_, fun k q hq => ?_⟩
  · match k, hq with
    | 0, hq => cases hq; exact k0
    | 1, hq => cases hq; exact k1
    | 2, hq => cases hq; exact k2
    | 3, hq => cases hq; exact k3
    | k + 4, hq => simp [vwCl] at hq
  · match k, hq with
    | 0, hq => cases hq; exact h0
    | 1, hq => cases hq; exact h1
    | 2, hq => cases hq; exact h2
    | 3, hq => cases hq; exact h3
    | k + 4, hq => simp [bv_tl] at hq
set_option maxHeartbeats 1000000 in
set_option maxRecDepth 100000 in
/-- the law, from its entry -/
theorem whole_start {p : Program} {e : Env} {s : State} {m : MethodId} {below : List Frame} {meth : Method} {c : Code} (l : Launch) (hflags : l.flags = flags0) {b L : Nat} {xs : Nat → Int32} (hL : L ≤ 2560) (C0 : lw_At p s m meth c b L xs) : W p l e room_1 s m #[Value.ref b] below meth c s.heap [] 0 0 (lw_Z below #[Value.ref b] s) (entryFrame m ([Value.ref b] : List Value).toArray 7) := by
  have hlt : l.stackTraces = false := by
    unfold Launch.stackTraces
    rw [hflags]
    decide +kernel
  obtain ⟨hx, hb, hr, hml, hown, hts, hX, hbl, hlocks, hgv⟩ := id C0
  have hts9 : ∀ w ∈ wsL_law, w.before #[Value.ref b] s = true := fun w h => hts w (wsL_law_in w h)
  have hown : s.vm.findClass RL = some m.cls := hown
  have hA : ∀ q : Nat, s.heap.size ≤ q → (fun q : Nat => s.heap.size ≤ q) q := fun _ h => h
  obtain ⟨D, t, hK⟩ := bv_classes hts
  have hE0 := bv_env hts hgv ((D, (fun _ => 0), t, s.heap.size) : bv_G) rfl
  have hNw := hE0.1
  have hAO := hE0.2.2.2.1
  have hS : va_S (fun q : Nat => s.heap.size ≤ q) s.heap s.heap [] := va_S.rf
  have hP : va_P D vwCl [] s.heap := fun k q h => by simp at h
  have hD : va_D (fun q : Nat => s.heap.size ≤ q) [] := ⟨fun i j p q h => by simp at h, fun k q h => by simp at h⟩
  have hl := lv_entry ([.ref b]) (n := 7) (Nat.le_of_ble_eq_true rfl)
  rw [lg_entry_eq]
  generalize (lg_sl ([.ref b]) ++ List.replicate (7 - (lg_sl ([.ref b])).length) Slot.unset).toArray = ls at hl ⊢
  have hl : lv_has ls 7 [(0, .ref b)] := hl
  refine va_new (ci := 2) (fs := [.null, .null, .null, .null, .null, .int 0]) (C := RX2) (T := TX2) (N := 6) hx hb hts bv_in_x2 tyX2 tyX2_ok hown (hts9 (.classLink RL 8 RX2) (by decide +kernel)) (hts9 (.instantiable RX2 6) (by decide +kernel)) (hts9 (.initialized RX2) (by decide +kernel)) hK hP hD hS hA rfl (fun j hj => by rcases (show j = 0 ∨ j = 1 ∨ j = 2 ∨ j = 3 ∨ j = 4 ∨ j = 5 by omega) with rfl | rfl | rfl | rfl | rfl | rfl <;> rfl) (Nat.le_of_ble_eq_true rfl) (Nat.le_of_ble_eq_true rfl) dL_law_0 (fun q0 H hP hD hS => ?_)
  refine W.widen (k := 1) (n := 6) (Nat.le_of_ble_eq_true rfl) (Nat.le_of_ble_eq_true rfl) ?_
  refine lv_dup hx hb dL_law_3 rfl ?_
  have hPc := bv_lastP hP
  have hDc := bv_lastD hD
  have hFc := va_free hD hS hA _ bv_lastC
  refine va_callv (va_runI (As := []) (rest := [.ref q0]) ⟨hx, hb, hml, hown, hts9⟩ (c_X2_init l D t q0 H.size) (cwI 0 hts9 gL_law_X2_init rfl rfl rfl (hts9 (.initialized RX2) (by decide +kernel)) (hts9 (.methodLink RL 75 yX2_init) (by decide +kernel)) (hts9 (.instanceMethod yX2_init) (by decide +kernel)) rfl (by decide +kernel) ⟨Nat.le_of_ble_eq_true rfl, Nat.le_of_ble_eq_true rfl⟩) ⟨fun a U g mk q => by obtain ⟨q0, q1, qP, qK, qD, qN, qA⟩ := q; exact ⟨q0, q1, qP, va_K.moved (u := U) (U := U.calling g mk a) (Vm.Alike.refl U.vm) qK, qD, fun w hw => va_Nw.same (u := U) (U := U.calling g mk a) (bv_wk_tab (bv_nw_wk w hw)) rfl (qN w hw), va_AO.moved (u := U) (U := U.calling g mk a) (Vm.Alike.refl U.vm) qA⟩, fun U hU hW => ⟨rfl, by rw [hU], by rw [hU]; exact hPc, va_K.moved hW.alike hK, hDc.weaken (fun _ _ _ _ => trivial), fun w hw => bv_wk_warm (bv_nw_wk w hw) hW (hNw w hw), va_AO.moved hW.alike hAO⟩⟩ rfl rfl hl.1 rfl (lv_room (Nat.le_of_ble_eq_true rfl)) dL_law_4 ⟨Nat.le_of_ble_eq_true rfl, Nat.le_of_ble_eq_true rfl⟩) hS (fun q _ h => hFc q h) hFc (fun u t9 H1 locs ht hvm hw hB hz1 hk1 hS => ?_)
  obtain ⟨hP1, hK1, hD1⟩ := hB
  rw [ht] at hP1
  obtain ⟨hP, hD⟩ := bv_join1 hP hD hk1 hFc hP1 hD1
  clear hPc hDc hFc hk1 hP1 hK1 hD1
  generalize H1 = H at hP hS ⊢
  refine W.widen (k := 43) (n := 418) (Nat.le_of_ble_eq_true rfl) (Nat.le_of_ble_eq_true rfl) ?_
  generalize u = a at hw hP hD
  have ha0 : a 0 = q0 := hw
  have hP : va_P D vwCl (bv_W2 D t a) H := hP
  have hD : va_D (fun q : Nat => s.heap.size ≤ q) (bv_W2 D t a) := hD
  refine lv_astore_n (lv' := [(1, .ref q0), (0, .ref b)]) hx hb dL_law_7 rfl hl (by decide) rfl (fun ls hl => ?_)
  refine va_new (ci := 3) (fs := [.int 0, .int 0, .null, .null, .null, .null, .null, .null, .null, .null, .null, .null, .null, .null, .null, .int 0, .null, .null, .null, .null, .null]) (C := RX3) (T := TX3) (N := 21) hx hb hts bv_in_x3 tyX3 tyX3_ok hown (hts9 (.classLink RL 76 RX3) (by decide +kernel)) (hts9 (.instantiable RX3 21) (by decide +kernel)) (hts9 (.initialized RX3) (by decide +kernel)) hK hP hD hS hA rfl (fun j hj => by rcases (show j = 0 ∨ j = 1 ∨ j = 2 ∨ j = 3 ∨ j = 4 ∨ j = 5 ∨ j = 6 ∨ j = 7 ∨ j = 8 ∨ j = 9 ∨ j = 10 ∨ j = 11 ∨ j = 12 ∨ j = 13 ∨ j = 14 ∨ j = 15 ∨ j = 16 ∨ j = 17 ∨ j = 18 ∨ j = 19 ∨ j = 20 by omega) with rfl | rfl | rfl | rfl | rfl | rfl | rfl | rfl | rfl | rfl | rfl | rfl | rfl | rfl | rfl | rfl | rfl | rfl | rfl | rfl | rfl <;> rfl) (Nat.le_of_ble_eq_true rfl) (Nat.le_of_ble_eq_true rfl) dL_law_8 (fun q1 H hP hD hS => ?_)
  refine W.widen (k := 44) (n := 439) (Nat.le_of_ble_eq_true rfl) (Nat.le_of_ble_eq_true rfl) ?_
  refine lv_dup hx hb dL_law_11 rfl ?_
  have hPc := bv_lastP hP
  have hDc := bv_lastD hD
  have hFc := va_free hD hS hA _ bv_lastC
  refine va_callv (va_runI (As := []) (rest := [.ref q1]) ⟨hx, hb, hml, hown, hts9⟩ (c_X3_init l D t q1 H.size) (cwI 0 hts9 gL_law_X3_init rfl rfl rfl (hts9 (.initialized RX3) (by decide +kernel)) (hts9 (.methodLink RL 78 yX3_init) (by decide +kernel)) (hts9 (.instanceMethod yX3_init) (by decide +kernel)) rfl (by decide +kernel) ⟨Nat.le_of_ble_eq_true rfl, Nat.le_of_ble_eq_true rfl⟩) ⟨fun a U g mk q => by obtain ⟨q0, q1, qP, qK, qD⟩ := q; exact ⟨q0, q1, qP, va_K.moved (u := U) (U := U.calling g mk a) (Vm.Alike.refl U.vm) qK, qD⟩, fun U hU hW => ⟨rfl, by rw [hU], by rw [hU]; exact hPc, va_K.moved hW.alike hK, hDc.weaken (fun _ _ _ _ => trivial)⟩⟩ rfl rfl hl.1 rfl (lv_room (Nat.le_of_ble_eq_true rfl)) dL_law_12 ⟨Nat.le_of_ble_eq_true rfl, Nat.le_of_ble_eq_true rfl⟩) hS (fun q _ h => hFc q h) hFc (fun u t9 H1 locs ht hvm hw hB hz1 hk1 hS => ?_)
  obtain ⟨hP1, hK1, hD1⟩ := hB
  rw [ht] at hP1
  obtain ⟨hP, hD⟩ := bv_join1 hP hD hk1 hFc hP1 hD1
  clear hPc hDc hFc hk1 hP1 hK1 hD1
  generalize H1 = H at hP hS ⊢
  refine W.widen (k := 62) (n := 813) (Nat.le_of_ble_eq_true rfl) (Nat.le_of_ble_eq_true rfl) ?_
  have hP : va_P D vwCl (bv_W2 D t a ++ bv_B3 t q1 u) H := hP
  have hD : va_D (fun q : Nat => s.heap.size ≤ q) (bv_W2 D t a ++ bv_B3 t q1 u) := hD
  refine lv_astore_n (lv' := [(2, .ref q1), (1, .ref q0), (0, .ref b)]) hx hb dL_law_15 rfl hl (by decide) rfl (fun ls hl => ?_)
  refine lv_iconst (v := 1) hx hb dL_law_16 (by decide) ?_
  refine va_newa (atype := .long) (ty := .long) (N' := 1) (a0 := (1, .inr (.inl (fun _ => 0)))) hx hb (hts9 (.arrayClass .long) (by decide +kernel)) rfl hK hP hD hS hA (fun _ => rfl) (by decide) (by decide) (by decide +kernel) (Nat.le_of_ble_eq_true rfl) (Nat.le_of_ble_eq_true rfl) dL_law_17 (fun q2 cA H hK9 hP hD hS => ?_)
  obtain rfl := bv_tyu hK9 3 rfl
  clear hK9
  refine W.widen (k := 63 + 6 * 0) (n := 814 + 36 * 0) (Nat.le_of_ble_eq_true rfl) (Nat.le_of_ble_eq_true rfl) ?_
  obtain ⟨g1, g2⟩ := bv_start (a := a) (u := u) (q1 := q1) (q2 := q2) (N0 := s.heap.size) hP hD
  refine lv_astore_n (lv' := [(3, .ref q2), (2, .ref q1), (1, .ref q0), (0, .ref b)]) hx hb dL_law_19 rfl hl (by decide) rfl (fun ls hl => ?_)
  refine lv_iconst (v := 0) hx hb dL_law_20 (by decide) ?_
  refine lv_istore (lv' := [(4, .int 0), (3, .ref q2), (2, .ref q1), (1, .ref q0), (0, .ref b)]) hx hb dL_law_21 hl (by decide) rfl (fun ls hl => ?_)
  have hl : lv_has ls 7 [(4, .int (nI (5 * 0))), (3, .ref (bv_aF a u q1 q2 62)), (2, .ref (bv_aF a u q1 q2 43)), (1, .ref (bv_aF a u q1 q2 0)), (0, .ref b)] := by
    rw [show bv_aF a u q1 q2 0 = q0 from ha0]
    exact hl
  exact bv_law_loop l hlt hL C0 ((D, bv_aF a u q1 q2, t, s.heap.size) : bv_G) rfl ⟨g1, hK⟩ (bv_env hts hgv _ rfl) 512 0 _ (0, 0) H _ ls rfl bv_I_0 g2 hS (lv_sub hl [0, 4, 3, 2, 1] rfl)
