set_option maxHeartbeats 4000000 in
set_option maxRecDepth 100000 in
theorem c_X1_isFull (l : Launch) (G : bv_G) (S M : bv_X) (z : bv_Z)   : bv_M l yX1_isFull wsX1_isFull ({ frames := 0, cells := 0, slots := 0, locals := 0 }) [.ref (bv_a G 2)] G S M z (bI (¬ S 0 1 < 30)) S M z := by
  refine Met.ofW (cc := cX1_isFull) (maxL := 1) (ret := (some .boolean)) (by decide) rfl ?_
  intro p e s m args below meth c s₁ B hml hv
  obtain ⟨rfl, hz, hP, hK, hE⟩ := hv
  have hx := B.exec
  have hb := B.bytes
  have hr := B.returns
  have hts := atoms_spec (ws := wsX1_isFull) B.pre
  have hown : s.vm.findClass RX1 = some m.cls := findClass_of_methodNamed B.named
  have hlocks := B.notSynchronized
  have hS : va_S (bv_A G) s.heap s.heap [] := va_S.rf
  have wl0 := hts (.fieldLink RX1 9 "BoxVault$OrderBook" "count" "I") (by decide +kernel)
  have hin1 : ∀ w ∈ wsX10, w ∈ wsX1_isFull := (fun w h => List.mem_cons_of_mem _ (List.mem_append_right _ h))
  have hl := lv_entry ([.ref (bv_a G 2)]) (n := 1) (Nat.le_of_ble_eq_true rfl)
  rw [lg_entry_eq]
  generalize (lg_sl ([.ref (bv_a G 2)]) ++ List.replicate (1 - (lg_sl ([.ref (bv_a G 2)])).length) Slot.unset).toArray = ls at hl ⊢
  have hl : lv_has ls 1 [(0, .ref (bv_a G 2))] := hl
  refine lv_aload_n hx hb dX1_isFull_0 rfl (lv_at hl 0 rfl) ?_
  refine bv_get_f (ci := 1) (C := RX1) (T := TX1) (N := 6) hx hb hts hin1 hown hK hP (bv_c2 G _ _ _) rfl 0 (by decide) wl0 rfl rfl dX1_isFull_1 ?_
  refine lv_bipush (v := 30) hx hb dX1_isFull_4 (by decide) ?_
  refine lv_icmp_lt (tgt := 13) hx hb dX1_isFull_6 (by decide) (fun c_1 => ?_) (fun c_1 => ?_)
  · refine lv_iconst (v := 0) hx hb dX1_isFull_13 (by decide) ?_
    exact bv_zret hx hb hr hlocks (rfl) hS (Nat.le_of_ble_eq_true rfl) (Nat.le_of_ble_eq_true rfl) dX1_isFull_14 (bI_f (by first | assumption | (intro h; contradiction))).symm hP
  · refine lv_iconst (v := 1) hx hb dX1_isFull_9 (by decide) ?_
    refine lv_goto (tgt := 14) hx hb dX1_isFull_10 (by decide) ?_
    exact bv_zret hx hb hr hlocks (rfl) hS (Nat.le_of_ble_eq_true rfl) (Nat.le_of_ble_eq_true rfl) dX1_isFull_14 (bI_t (by first | assumption | (intro h; contradiction))).symm hP
set_option maxHeartbeats 4000000 in
set_option maxRecDepth 100000 in
theorem c_X1_has (l : Launch) (G : bv_G) (S M : bv_X) (z : bv_Z) (p0 : Int32)  : bv_M l yX1_has wsX1_has ({ frames := 0, cells := 0, slots := 0, locals := 0 }) [.ref (bv_a G 2), .int p0] G S M z (bI (¬ p0 < 0 ∧ ¬ S 0 1 ≤ p0 ∧ ¬ 30 ≤ p0)) S M z := by
  refine Met.ofW (cc := cX1_has) (maxL := 2) (ret := (some .boolean)) (by decide) rfl ?_
  intro p e s m args below meth c s₁ B hml hv
  obtain ⟨rfl, hz, hP, hK, hE⟩ := hv
  have hx := B.exec
  have hb := B.bytes
  have hr := B.returns
  have hts := atoms_spec (ws := wsX1_has) B.pre
  have hown : s.vm.findClass RX1 = some m.cls := findClass_of_methodNamed B.named
  have hlocks := B.notSynchronized
  have hS : va_S (bv_A G) s.heap s.heap [] := va_S.rf
  have wl0 := hts (.fieldLink RX1 9 "BoxVault$OrderBook" "count" "I") (by decide +kernel)
  have hin1 : ∀ w ∈ wsX10, w ∈ wsX1_has := (fun w h => List.mem_cons_of_mem _ (List.mem_append_right _ h))
  have hl := lv_entry ([.ref (bv_a G 2), .int p0]) (n := 2) (Nat.le_of_ble_eq_true rfl)
  rw [lg_entry_eq]
  generalize (lg_sl ([.ref (bv_a G 2), .int p0]) ++ List.replicate (2 - (lg_sl ([.ref (bv_a G 2), .int p0])).length) Slot.unset).toArray = ls at hl ⊢
  have hl : lv_has ls 2 [(0, .ref (bv_a G 2)), (1, .int p0)] := hl
  refine lv_iload_n hx hb dX1_has_0 rfl (lv_at hl 1 rfl) ?_
  refine lv_if_lt (tgt := 22) hx hb dX1_has_1 (by decide) (fun c_1 => ?_) (fun c_1 => ?_)
  · refine lv_iconst (v := 0) hx hb dX1_has_22 (by decide) ?_
    exact bv_zret hx hb hr hlocks (rfl) hS (Nat.le_of_ble_eq_true rfl) (Nat.le_of_ble_eq_true rfl) dX1_has_23 (bI_f (by first | exact ⟨c_1, c_2, c_3⟩ | (intro h; exact h.1 (by assumption)) | (intro h; exact h.2.1 (by assumption)) | (intro h; exact h.2.2 (by assumption)))).symm hP
  · refine lv_iload_n hx hb dX1_has_4 rfl (lv_at hl 1 rfl) ?_
    refine lv_aload_n hx hb dX1_has_5 rfl (lv_at hl 0 rfl) ?_
    refine bv_get_f (ci := 1) (C := RX1) (T := TX1) (N := 6) hx hb hts hin1 hown hK hP (bv_c2 G _ _ _) rfl 0 (by decide) wl0 rfl rfl dX1_has_6 ?_
    refine lv_icmp_ge (tgt := 22) hx hb dX1_has_9 (by decide) (fun c_2 => ?_) (fun c_2 => ?_)
    · refine lv_iconst (v := 0) hx hb dX1_has_22 (by decide) ?_
      exact bv_zret hx hb hr hlocks (rfl) hS (Nat.le_of_ble_eq_true rfl) (Nat.le_of_ble_eq_true rfl) dX1_has_23 (bI_f (by first | exact ⟨c_1, c_2, c_3⟩ | (intro h; exact h.1 (by assumption)) | (intro h; exact h.2.1 (by assumption)) | (intro h; exact h.2.2 (by assumption)))).symm hP
    · refine lv_iload_n hx hb dX1_has_12 rfl (lv_at hl 1 rfl) ?_
      refine lv_bipush (v := 30) hx hb dX1_has_13 (by decide) ?_
      refine lv_icmp_ge (tgt := 22) hx hb dX1_has_15 (by decide) (fun c_3 => ?_) (fun c_3 => ?_)
      · refine lv_iconst (v := 0) hx hb dX1_has_22 (by decide) ?_
        exact bv_zret hx hb hr hlocks (rfl) hS (Nat.le_of_ble_eq_true rfl) (Nat.le_of_ble_eq_true rfl) dX1_has_23 (bI_f (by first | exact ⟨c_1, c_2, c_3⟩ | (intro h; exact h.1 (by assumption)) | (intro h; exact h.2.1 (by assumption)) | (intro h; exact h.2.2 (by assumption)))).symm hP
      · refine lv_iconst (v := 1) hx hb dX1_has_18 (by decide) ?_
        refine lv_goto (tgt := 23) hx hb dX1_has_19 (by decide) ?_
        exact bv_zret hx hb hr hlocks (rfl) hS (Nat.le_of_ble_eq_true rfl) (Nat.le_of_ble_eq_true rfl) dX1_has_23 (bI_t (by first | exact ⟨c_1, c_2, c_3⟩ | (intro h; exact h.1 (by assumption)) | (intro h; exact h.2.1 (by assumption)) | (intro h; exact h.2.2 (by assumption)))).symm hP
set_option maxHeartbeats 4000000 in
set_option maxRecDepth 100000 in
theorem c_X1_add (l : Launch) (G : bv_G) (S M : bv_X) (z : bv_Z) (p0 : Int32) (p1 : Int32) (p2 : Int32) (p3 : Int32) (cn : Nat) (hc : cn < 30) (ec : S 0 1 = nI cn) : bv_M l yX1_add wsX1_add ({ frames := 0, cells := 0, slots := 0, locals := 0 }) [.ref (bv_a G 2), .int p0, .int p1, .int p2, .int p3] G S M z (S 0 1) (bv_up (bv_up (bv_up (bv_up (bv_up (bv_up S 4 cn p0) 5 cn p1) 6 cn p2) 7 cn p3) 8 cn 1) 0 1 (S 0 1 + 1)) M z := by
  refine Met.ofW (cc := cX1_add) (maxL := 6) (ret := (some .int)) (by decide) rfl ?_
  intro p e s m args below meth c s₁ B hml hv
  obtain ⟨rfl, hz, hP, hK, hE⟩ := hv
  have hx := B.exec
  have hb := B.bytes
  have hr := B.returns
  have hts := atoms_spec (ws := wsX1_add) B.pre
  have hown : s.vm.findClass RX1 = some m.cls := findClass_of_methodNamed B.named
  have hlocks := B.notSynchronized
  have hS : va_S (bv_A G) s.heap s.heap [] := va_S.rf
  have wl0 := hts (.fieldLink RX1 9 "BoxVault$OrderBook" "count" "I") (by decide +kernel)
  have wl1 := hts (.fieldLink RX1 15 "BoxVault$OrderBook" "box" "[I") (by decide +kernel)
  have wl2 := hts (.fieldLink RX1 19 "BoxVault$OrderBook" "court" "[I") (by decide +kernel)
  have wl3 := hts (.fieldLink RX1 22 "BoxVault$OrderBook" "kind" "[I") (by decide +kernel)
  have wl4 := hts (.fieldLink RX1 25 "BoxVault$OrderBook" "person" "[I") (by decide +kernel)
  have wl5 := hts (.fieldLink RX1 28 "BoxVault$OrderBook" "holds" "[Z") (by decide +kernel)
  have hin1 : ∀ w ∈ wsX10, w ∈ wsX1_add := (fun w h => List.mem_cons_of_mem _ (List.mem_append_right _ h))
  have hl := lv_entry ([.ref (bv_a G 2), .int p0, .int p1, .int p2, .int p3]) (n := 6) (Nat.le_of_ble_eq_true rfl)
  rw [lg_entry_eq]
  generalize (lg_sl ([.ref (bv_a G 2), .int p0, .int p1, .int p2, .int p3]) ++ List.replicate (6 - (lg_sl ([.ref (bv_a G 2), .int p0, .int p1, .int p2, .int p3])).length) Slot.unset).toArray = ls at hl ⊢
  have hl : lv_has ls 6 [(0, .ref (bv_a G 2)), (1, .int p0), (2, .int p1), (3, .int p2), (4, .int p3)] := hl
  refine lv_aload_n hx hb dX1_add_0 rfl (lv_at hl 0 rfl) ?_
  refine bv_get_f (ci := 1) (C := RX1) (T := TX1) (N := 6) hx hb hts hin1 hown hK hP (bv_c2 G _ _ _) rfl 0 (by decide) wl0 rfl rfl dX1_add_1 ?_
  refine lv_if_lt (tgt := 16) hx hb dX1_add_4 (by decide) (fun c_1 => ?_) (fun c_1 => ?_)
  · exact absurd c_1 (by rw [ec]; exact nI_pos (by omega))
  · refine lv_aload_n hx hb dX1_add_7 rfl (lv_at hl 0 rfl) ?_
    refine bv_get_f (ci := 1) (C := RX1) (T := TX1) (N := 6) hx hb hts hin1 hown hK hP (bv_c2 G _ _ _) rfl 0 (by decide) wl0 rfl rfl dX1_add_8 ?_
    refine lv_bipush (v := 30) hx hb dX1_add_11 (by decide) ?_
    refine lv_icmp_lt (tgt := 18) hx hb dX1_add_13 (by decide) (fun c_2 => ?_) (fun c_2 => ?_)
    · refine lv_aload_n hx hb dX1_add_18 rfl (lv_at hl 0 rfl) ?_
      refine bv_get_f (ci := 1) (C := RX1) (T := TX1) (N := 6) hx hb hts hin1 hown hK hP (bv_c2 G _ _ _) rfl 0 (by decide) wl0 rfl rfl dX1_add_19 ?_
      refine lv_istore (lv' := [(5, .int (S 0 1)), (0, .ref (bv_a G 2)), (1, .int p0), (2, .int p1), (3, .int p2), (4, .int p3)]) hx hb dX1_add_22 hl (by decide) rfl (fun ls hl => ?_)
      refine lv_aload_n hx hb dX1_add_24 rfl (lv_at hl 1 rfl) ?_
      refine bv_get_f (ci := 1) (C := RX1) (T := TX1) (N := 6) hx hb hts hin1 hown hK hP (bv_c2 G _ _ _) rfl 1 (by decide) wl1 rfl rfl dX1_add_25 ?_
      refine lv_iload hx hb dX1_add_28 (lv_at hl 0 rfl) ?_
      refine lv_iload_n hx hb dX1_add_30 rfl (lv_at hl 2 rfl) ?_
      refine bv_iast hx hb hK hP hS 6 (bv_c6 G _ _ _ ) cn (ec) (by omega) (by decide) (bv_s6 G _ _ _ _ _) dX1_add_31 (fun H locs hP hS => ?_)
      refine lv_aload_n hx hb dX1_add_32 rfl (lv_at hl 1 rfl) ?_
      refine bv_get_f (ci := 1) (C := RX1) (T := TX1) (N := 6) hx hb hts hin1 hown hK hP (bv_c2 G _ _ _) rfl 2 (by decide) wl2 rfl rfl dX1_add_33 ?_
      refine lv_iload hx hb dX1_add_36 (lv_at hl 0 rfl) ?_
      refine lv_iload_n hx hb dX1_add_38 rfl (lv_at hl 3 rfl) ?_
      refine bv_iast hx hb hK hP hS 7 (bv_c7 G _ _ _ ) cn (ec) (by omega) (by decide) (bv_s7 G _ _ _ _ _) dX1_add_39 (fun H locs hP hS => ?_)
      refine lv_aload_n hx hb dX1_add_40 rfl (lv_at hl 1 rfl) ?_
      refine bv_get_f (ci := 1) (C := RX1) (T := TX1) (N := 6) hx hb hts hin1 hown hK hP (bv_c2 G _ _ _) rfl 3 (by decide) wl3 rfl rfl dX1_add_41 ?_
      refine lv_iload hx hb dX1_add_44 (lv_at hl 0 rfl) ?_
      refine lv_iload_n hx hb dX1_add_46 rfl (lv_at hl 4 rfl) ?_
      refine bv_iast hx hb hK hP hS 8 (bv_c8 G _ _ _ ) cn (ec) (by omega) (by decide) (bv_s8 G _ _ _ _ _) dX1_add_47 (fun H locs hP hS => ?_)
      refine lv_aload_n hx hb dX1_add_48 rfl (lv_at hl 1 rfl) ?_
      refine bv_get_f (ci := 1) (C := RX1) (T := TX1) (N := 6) hx hb hts hin1 hown hK hP (bv_c2 G _ _ _) rfl 4 (by decide) wl4 rfl rfl dX1_add_49 ?_
      refine lv_iload hx hb dX1_add_52 (lv_at hl 0 rfl) ?_
      refine lv_iload hx hb dX1_add_54 (lv_at hl 5 rfl) ?_
      refine bv_iast hx hb hK hP hS 9 (bv_c9 G _ _ _ ) cn (ec) (by omega) (by decide) (bv_s9 G _ _ _ _ _) dX1_add_56 (fun H locs hP hS => ?_)
      refine lv_aload_n hx hb dX1_add_57 rfl (lv_at hl 1 rfl) ?_
      refine bv_get_f (ci := 1) (C := RX1) (T := TX1) (N := 6) hx hb hts hin1 hown hK hP (bv_c2 G _ _ _) rfl 5 (by decide) wl5 rfl rfl dX1_add_58 ?_
      refine lv_iload hx hb dX1_add_61 (lv_at hl 0 rfl) ?_
      refine lv_iconst (v := 1) hx hb dX1_add_63 (by decide) ?_
      refine bv_zast hx hb hK hP hS 10 (bv_c10 G _ _ _ ) cn (ec) (by omega) (by decide) (rfl) (bv_s10 G _ _ _ _ _) dX1_add_64 (fun H locs hP hS => ?_)
      refine lv_aload_n hx hb dX1_add_65 rfl (lv_at hl 1 rfl) ?_
      refine lv_dup hx hb dX1_add_66 rfl ?_
      refine bv_get_f (ci := 1) (C := RX1) (T := TX1) (N := 6) hx hb hts hin1 hown hK hP (bv_c2 G _ _ _) rfl 0 (by decide) wl0 rfl rfl dX1_add_67 ?_
      refine lv_iconst (v := 1) hx hb dX1_add_70 (by decide) ?_
      refine lv_iadd hx hb dX1_add_71 ?_
      refine bv_put_f (ci := 1) (C := RX1) (T := TX1) (N := 6) (ty := .int) hx hb hts hin1 tyX1 tyX1_ok nmX1 hown hK hP hS (bv_c2 G _ _ _) rfl 0 (by decide) wl0 rfl rfl rfl rfl rfl (Nat.le_of_ble_eq_true rfl) rfl (bv_s2 G _ _ _ _) dX1_add_72 (fun H locs hP hS => ?_)
      refine lv_iload hx hb dX1_add_75 (lv_at hl 0 rfl) ?_
      exact bv_iret hx hb hr hlocks hS (Nat.le_of_ble_eq_true rfl) (Nat.le_of_ble_eq_true rfl) dX1_add_77 rfl hP
    · exact absurd (by rw [ec]; exact nI_lt (b := 30) hc (by decide)) c_2
set_option maxHeartbeats 4000000 in
set_option maxRecDepth 100000 in
theorem c_X1_isInForce (l : Launch) (G : bv_G) (S M : bv_X) (z : bv_Z) (i : Nat) (hi : i < 30) (hh : ¬ S 0 1 ≤ nI i) : bv_M l yX1_isInForce wsX1_isInForce ({ frames := 1, cells := 0, slots := 0, locals := 21 }) [.ref (bv_a G 2), .int (nI i)] G S M z (bI (¬ S 8 i = 0)) S M z := by
  refine Met.ofW (cc := cX1_isInForce) (maxL := 2) (ret := (some .boolean)) (by decide) rfl ?_
  intro p e s m args below meth c s₁ B hml hv
  obtain ⟨rfl, hz, hP, hK, hE⟩ := hv
  have hx := B.exec
  have hb := B.bytes
  have hr := B.returns
  have hts := atoms_spec (ws := wsX1_isInForce) B.pre
  have hown : s.vm.findClass RX1 = some m.cls := findClass_of_methodNamed B.named
  have hlocks := B.notSynchronized
  have hS : va_S (bv_A G) s.heap s.heap [] := va_S.rf
  have wl0 := hts (.fieldLink RX1 28 "BoxVault$OrderBook" "holds" "[Z") (by decide +kernel)
  have hin1 : ∀ w ∈ wsX10, w ∈ wsX1_isInForce := (fun w h => List.mem_cons_of_mem _ (List.mem_append_right _ h))
  have hl := lv_entry ([.ref (bv_a G 2), .int (nI i)]) (n := 2) (Nat.le_of_ble_eq_true rfl)
  rw [lg_entry_eq]
  generalize (lg_sl ([.ref (bv_a G 2), .int (nI i)]) ++ List.replicate (2 - (lg_sl ([.ref (bv_a G 2), .int (nI i)])).length) Slot.unset).toArray = ls at hl ⊢
  have hl : lv_has ls 2 [(0, .ref (bv_a G 2)), (1, .int (nI i))] := hl
  refine lv_aload_n hx hb dX1_isInForce_0 rfl (lv_at hl 0 rfl) ?_
  refine lv_iload_n hx hb dX1_isInForce_1 rfl (lv_at hl 1 rfl) ?_
  refine bv_ci (va_runV (As := [.int (nI i)]) (rest := []) ⟨hx, hb, hml, hown, hts⟩ (c_X1_has l G S M z (nI i) ) (cwV 1 hts gX1_isInForce_X1_has rfl rfl rfl (by decide +kernel) ⟨Nat.le_of_ble_eq_true rfl, Nat.le_of_ble_eq_true rfl⟩) (bv_preV hz hP hK hE hS (ci := 1) (bv_c2 G _ _ _) rfl rfl) rfl rfl hl.1 rfl (lv_room (Nat.le_of_ble_eq_true rfl)) dX1_isInForce_2 ⟨Nat.le_of_ble_eq_true rfl, Nat.le_of_ble_eq_true rfl⟩) hS (fun H locs hP hS => ?_)
  refine bv_ifeqB (tgt := 21) hx hb dX1_isInForce_5 (by decide) (fun c_1 => ?_) (fun c_1 => ?_)
  · exact absurd ⟨nI_pos (by omega), hh, nI_ge (a := i) (b := 30) (by omega) (by decide)⟩ c_1
  · refine lv_aload_n hx hb dX1_isInForce_8 rfl (lv_at hl 0 rfl) ?_
    refine bv_get_f (ci := 1) (C := RX1) (T := TX1) (N := 6) hx hb hts hin1 hown hK hP (bv_c2 G _ _ _) rfl 5 (by decide) wl0 rfl rfl dX1_isInForce_9 ?_
    refine lv_iload_n hx hb dX1_isInForce_12 rfl (lv_at hl 1 rfl) ?_
    refine bv_zald hx hb hK hP 10 (bv_c10 G _ _ _) i (rfl) (by omega) (by decide) dX1_isInForce_13 ?_
    refine lv_if_eq (tgt := 21) hx hb dX1_isInForce_14 (by decide) (fun c_2 => ?_) (fun c_2 => ?_)
    · refine lv_iconst (v := 0) hx hb dX1_isInForce_21 (by decide) ?_
      exact bv_zret hx hb hr hlocks (rfl) hS (Nat.le_of_ble_eq_true rfl) (Nat.le_of_ble_eq_true rfl) dX1_isInForce_22 (bI_f (by first | assumption | (intro h; contradiction))).symm hP
    · refine lv_iconst (v := 1) hx hb dX1_isInForce_17 (by decide) ?_
      refine lv_goto (tgt := 22) hx hb dX1_isInForce_18 (by decide) ?_
      exact bv_zret hx hb hr hlocks (rfl) hS (Nat.le_of_ble_eq_true rfl) (Nat.le_of_ble_eq_true rfl) dX1_isInForce_22 (bI_t (by first | assumption | (intro h; contradiction))).symm hP
set_option maxHeartbeats 4000000 in
set_option maxRecDepth 100000 in
theorem c_X1_end (l : Launch) (G : bv_G) (S M : bv_X) (z : bv_Z) (i : Nat) (hi : i < 30) (hh : ¬ S 0 1 ≤ nI i) : bv_Mv l yX1_end wsX1_end ({ frames := 1, cells := 0, slots := 0, locals := 21 }) [.ref (bv_a G 2), .int (nI i)] G S M z (bv_up S 8 i 0) M z := by
  refine Met.ofW (cc := cX1_end) (maxL := 2) (ret := none) (by decide) rfl ?_
  intro p e s m args below meth c s₁ B hml hv
  obtain ⟨rfl, hz, hP, hK, hE⟩ := hv
  have hx := B.exec
  have hb := B.bytes
  have hr := B.returns
  have hts := atoms_spec (ws := wsX1_end) B.pre
  have hown : s.vm.findClass RX1 = some m.cls := findClass_of_methodNamed B.named
  have hlocks := B.notSynchronized
  have hS : va_S (bv_A G) s.heap s.heap [] := va_S.rf
  have wl0 := hts (.fieldLink RX1 28 "BoxVault$OrderBook" "holds" "[Z") (by decide +kernel)
  have hin1 : ∀ w ∈ wsX10, w ∈ wsX1_end := (fun w h => List.mem_cons_of_mem _ (List.mem_append_right _ h))
  have hl := lv_entry ([.ref (bv_a G 2), .int (nI i)]) (n := 2) (Nat.le_of_ble_eq_true rfl)
  rw [lg_entry_eq]
  generalize (lg_sl ([.ref (bv_a G 2), .int (nI i)]) ++ List.replicate (2 - (lg_sl ([.ref (bv_a G 2), .int (nI i)])).length) Slot.unset).toArray = ls at hl ⊢
  have hl : lv_has ls 2 [(0, .ref (bv_a G 2)), (1, .int (nI i))] := hl
  refine lv_aload_n hx hb dX1_end_0 rfl (lv_at hl 0 rfl) ?_
  refine lv_iload_n hx hb dX1_end_1 rfl (lv_at hl 1 rfl) ?_
  refine bv_ci (va_runV (As := [.int (nI i)]) (rest := []) ⟨hx, hb, hml, hown, hts⟩ (c_X1_has l G S M z (nI i) ) (cwV 1 hts gX1_end_X1_has rfl rfl rfl (by decide +kernel) ⟨Nat.le_of_ble_eq_true rfl, Nat.le_of_ble_eq_true rfl⟩) (bv_preV hz hP hK hE hS (ci := 1) (bv_c2 G _ _ _) rfl rfl) rfl rfl hl.1 rfl (lv_room (Nat.le_of_ble_eq_true rfl)) dX1_end_2 ⟨Nat.le_of_ble_eq_true rfl, Nat.le_of_ble_eq_true rfl⟩) hS (fun H locs hP hS => ?_)
  refine bv_ifeqB (tgt := 15) hx hb dX1_end_5 (by decide) (fun c_1 => ?_) (fun c_1 => ?_)
  · exact absurd ⟨nI_pos (by omega), hh, nI_ge (a := i) (b := 30) (by omega) (by decide)⟩ c_1
  · refine lv_aload_n hx hb dX1_end_8 rfl (lv_at hl 0 rfl) ?_
    refine bv_get_f (ci := 1) (C := RX1) (T := TX1) (N := 6) hx hb hts hin1 hown hK hP (bv_c2 G _ _ _) rfl 5 (by decide) wl0 rfl rfl dX1_end_9 ?_
    refine lv_iload_n hx hb dX1_end_12 rfl (lv_at hl 1 rfl) ?_
    refine lv_iconst (v := 0) hx hb dX1_end_13 (by decide) ?_
    refine bv_zast hx hb hK hP hS 10 (bv_c10 G _ _ _ ) i (rfl) (by omega) (by decide) (rfl) (bv_s10 G _ _ _ _ _) dX1_end_14 (fun H locs hP hS => ?_)
    exact bv_vret hx hb hr hlocks hS (Nat.le_of_ble_eq_true rfl) (Nat.le_of_ble_eq_true rfl) dX1_end_15 hP
set_option maxHeartbeats 4000000 in
set_option maxRecDepth 100000 in
theorem c_X1_kindOf (l : Launch) (G : bv_G) (S M : bv_X) (z : bv_Z) (p0 : Int32)  : bv_M l yX1_kindOf wsX1_kindOf ({ frames := 1, cells := 0, slots := 0, locals := 21 }) [.ref (bv_a G 2), .int p0] G S M z (if ¬ p0 < 0 ∧ ¬ S 0 1 ≤ p0 ∧ ¬ 30 ≤ p0 then S 6 p0.toNatClampNeg else -1) S M z := by
  refine Met.ofW (cc := cX1_kindOf) (maxL := 2) (ret := (some .int)) (by decide) rfl ?_
  intro p e s m args below meth c s₁ B hml hv
  obtain ⟨rfl, hz, hP, hK, hE⟩ := hv
  have hx := B.exec
  have hb := B.bytes
  have hr := B.returns
  have hts := atoms_spec (ws := wsX1_kindOf) B.pre
  have hown : s.vm.findClass RX1 = some m.cls := findClass_of_methodNamed B.named
  have hlocks := B.notSynchronized
  have hS : va_S (bv_A G) s.heap s.heap [] := va_S.rf
  have wl0 := hts (.fieldLink RX1 22 "BoxVault$OrderBook" "kind" "[I") (by decide +kernel)
  have hin1 : ∀ w ∈ wsX10, w ∈ wsX1_kindOf := (fun w h => List.mem_cons_of_mem _ (List.mem_append_right _ h))
  have hl := lv_entry ([.ref (bv_a G 2), .int p0]) (n := 2) (Nat.le_of_ble_eq_true rfl)
  rw [lg_entry_eq]
  generalize (lg_sl ([.ref (bv_a G 2), .int p0]) ++ List.replicate (2 - (lg_sl ([.ref (bv_a G 2), .int p0])).length) Slot.unset).toArray = ls at hl ⊢
  have hl : lv_has ls 2 [(0, .ref (bv_a G 2)), (1, .int p0)] := hl
  refine lv_aload_n hx hb dX1_kindOf_0 rfl (lv_at hl 0 rfl) ?_
  refine lv_iload_n hx hb dX1_kindOf_1 rfl (lv_at hl 1 rfl) ?_
  refine bv_ci (va_runV (As := [.int p0]) (rest := []) ⟨hx, hb, hml, hown, hts⟩ (c_X1_has l G S M z p0 ) (cwV 1 hts gX1_kindOf_X1_has rfl rfl rfl (by decide +kernel) ⟨Nat.le_of_ble_eq_true rfl, Nat.le_of_ble_eq_true rfl⟩) (bv_preV hz hP hK hE hS (ci := 1) (bv_c2 G _ _ _) rfl rfl) rfl rfl hl.1 rfl (lv_room (Nat.le_of_ble_eq_true rfl)) dX1_kindOf_2 ⟨Nat.le_of_ble_eq_true rfl, Nat.le_of_ble_eq_true rfl⟩) hS (fun H locs hP hS => ?_)
  refine bv_ifeqB (tgt := 17) hx hb dX1_kindOf_5 (by decide) (fun c_1 => ?_) (fun c_1 => ?_)
  · refine lv_iconst (v := (-1)) hx hb dX1_kindOf_17 (by decide) ?_
    exact bv_iret hx hb hr hlocks hS (Nat.le_of_ble_eq_true rfl) (Nat.le_of_ble_eq_true rfl) dX1_kindOf_18 (by first | rw [if_pos (by assumption), bv_cl hi (by decide)] | rw [if_neg (by assumption)]) hP
  · obtain ⟨i, hi, ei⟩ := bv_ofN (n := 30) (y := 30) (by decide) c_1.1 rfl c_1.2.2
    subst ei
    refine lv_aload_n hx hb dX1_kindOf_8 rfl (lv_at hl 0 rfl) ?_
    refine bv_get_f (ci := 1) (C := RX1) (T := TX1) (N := 6) hx hb hts hin1 hown hK hP (bv_c2 G _ _ _) rfl 3 (by decide) wl0 rfl rfl dX1_kindOf_9 ?_
    refine lv_iload_n hx hb dX1_kindOf_12 rfl (lv_at hl 1 rfl) ?_
    refine bv_iald hx hb hK hP 8 (bv_c8 G _ _ _) i (rfl) (by omega) (by decide) dX1_kindOf_13 ?_
    refine lv_goto (tgt := 18) hx hb dX1_kindOf_14 (by decide) ?_
    exact bv_iret hx hb hr hlocks hS (Nat.le_of_ble_eq_true rfl) (Nat.le_of_ble_eq_true rfl) dX1_kindOf_18 (by first | rw [if_pos (by assumption), bv_cl hi (by decide)] | rw [if_neg (by assumption)]) hP
set_option maxHeartbeats 4000000 in
set_option maxRecDepth 100000 in
theorem c_X1_personOf (l : Launch) (G : bv_G) (S M : bv_X) (z : bv_Z) (p0 : Int32)  : bv_M l yX1_personOf wsX1_personOf ({ frames := 1, cells := 0, slots := 0, locals := 21 }) [.ref (bv_a G 2), .int p0] G S M z (if ¬ p0 < 0 ∧ ¬ S 0 1 ≤ p0 ∧ ¬ 30 ≤ p0 then S 7 p0.toNatClampNeg else -1) S M z := by
  refine Met.ofW (cc := cX1_personOf) (maxL := 2) (ret := (some .int)) (by decide) rfl ?_
  intro p e s m args below meth c s₁ B hml hv
  obtain ⟨rfl, hz, hP, hK, hE⟩ := hv
  have hx := B.exec
  have hb := B.bytes
  have hr := B.returns
  have hts := atoms_spec (ws := wsX1_personOf) B.pre
  have hown : s.vm.findClass RX1 = some m.cls := findClass_of_methodNamed B.named
  have hlocks := B.notSynchronized
  have hS : va_S (bv_A G) s.heap s.heap [] := va_S.rf
  have wl0 := hts (.fieldLink RX1 25 "BoxVault$OrderBook" "person" "[I") (by decide +kernel)
  have hin1 : ∀ w ∈ wsX10, w ∈ wsX1_personOf := (fun w h => List.mem_cons_of_mem _ (List.mem_append_right _ h))
  have hl := lv_entry ([.ref (bv_a G 2), .int p0]) (n := 2) (Nat.le_of_ble_eq_true rfl)
  rw [lg_entry_eq]
  generalize (lg_sl ([.ref (bv_a G 2), .int p0]) ++ List.replicate (2 - (lg_sl ([.ref (bv_a G 2), .int p0])).length) Slot.unset).toArray = ls at hl ⊢
  have hl : lv_has ls 2 [(0, .ref (bv_a G 2)), (1, .int p0)] := hl
  refine lv_aload_n hx hb dX1_personOf_0 rfl (lv_at hl 0 rfl) ?_
  refine lv_iload_n hx hb dX1_personOf_1 rfl (lv_at hl 1 rfl) ?_
  refine bv_ci (va_runV (As := [.int p0]) (rest := []) ⟨hx, hb, hml, hown, hts⟩ (c_X1_has l G S M z p0 ) (cwV 1 hts gX1_personOf_X1_has rfl rfl rfl (by decide +kernel) ⟨Nat.le_of_ble_eq_true rfl, Nat.le_of_ble_eq_true rfl⟩) (bv_preV hz hP hK hE hS (ci := 1) (bv_c2 G _ _ _) rfl rfl) rfl rfl hl.1 rfl (lv_room (Nat.le_of_ble_eq_true rfl)) dX1_personOf_2 ⟨Nat.le_of_ble_eq_true rfl, Nat.le_of_ble_eq_true rfl⟩) hS (fun H locs hP hS => ?_)
  refine bv_ifeqB (tgt := 17) hx hb dX1_personOf_5 (by decide) (fun c_1 => ?_) (fun c_1 => ?_)
  · refine lv_iconst (v := (-1)) hx hb dX1_personOf_17 (by decide) ?_
    exact bv_iret hx hb hr hlocks hS (Nat.le_of_ble_eq_true rfl) (Nat.le_of_ble_eq_true rfl) dX1_personOf_18 (by first | rw [if_pos (by assumption), bv_cl hi (by decide)] | rw [if_neg (by assumption)]) hP
  · obtain ⟨i, hi, ei⟩ := bv_ofN (n := 30) (y := 30) (by decide) c_1.1 rfl c_1.2.2
    subst ei
    refine lv_aload_n hx hb dX1_personOf_8 rfl (lv_at hl 0 rfl) ?_
    refine bv_get_f (ci := 1) (C := RX1) (T := TX1) (N := 6) hx hb hts hin1 hown hK hP (bv_c2 G _ _ _) rfl 4 (by decide) wl0 rfl rfl dX1_personOf_9 ?_
    refine lv_iload_n hx hb dX1_personOf_12 rfl (lv_at hl 1 rfl) ?_
    refine bv_iald hx hb hK hP 9 (bv_c9 G _ _ _) i (rfl) (by omega) (by decide) dX1_personOf_13 ?_
    refine lv_goto (tgt := 18) hx hb dX1_personOf_14 (by decide) ?_
    exact bv_iret hx hb hr hlocks hS (Nat.le_of_ble_eq_true rfl) (Nat.le_of_ble_eq_true rfl) dX1_personOf_18 (by first | rw [if_pos (by assumption), bv_cl hi (by decide)] | rw [if_neg (by assumption)]) hP
set_option maxHeartbeats 4000000 in
set_option maxRecDepth 100000 in
theorem c_X1_bindingOn (l : Launch) (G : bv_G) (S M : bv_X) (z : bv_Z) (p0 : Int32) (cn : Nat) (hc : cn ≤ 30) (ec : S 0 1 = nI cn) : bv_M l yX1_bindingOn wsX1_bindingOn ({ frames := 0, cells := 0, slots := 0, locals := 0 }) [.ref (bv_a G 2), .int p0] G S M z (bv_bn S p0 cn) S M z := by
  refine Met.ofW (cc := cX1_bindingOn) (maxL := 4) (ret := (some .int)) (by decide) rfl ?_
  intro p e s m args below meth c s₁ B hml hv
  obtain ⟨rfl, hz, hP, hK, hE⟩ := hv
  have hx := B.exec
  have hb := B.bytes
  have hr := B.returns
  have hts := atoms_spec (ws := wsX1_bindingOn) B.pre
  have hown : s.vm.findClass RX1 = some m.cls := findClass_of_methodNamed B.named
  have hlocks := B.notSynchronized
  have hS : va_S (bv_A G) s.heap s.heap [] := va_S.rf
  have wl0 := hts (.fieldLink RX1 9 "BoxVault$OrderBook" "count" "I") (by decide +kernel)
  have wl1 := hts (.fieldLink RX1 28 "BoxVault$OrderBook" "holds" "[Z") (by decide +kernel)
  have wl2 := hts (.fieldLink RX1 15 "BoxVault$OrderBook" "box" "[I") (by decide +kernel)
  have wl3 := hts (.fieldLink RX1 19 "BoxVault$OrderBook" "court" "[I") (by decide +kernel)
  have hin1 : ∀ w ∈ wsX10, w ∈ wsX1_bindingOn := (fun w h => List.mem_cons_of_mem _ (List.mem_append_right _ h))
  have hl := lv_entry ([.ref (bv_a G 2), .int p0]) (n := 4) (Nat.le_of_ble_eq_true rfl)
  rw [lg_entry_eq]
  generalize (lg_sl ([.ref (bv_a G 2), .int p0]) ++ List.replicate (4 - (lg_sl ([.ref (bv_a G 2), .int p0])).length) Slot.unset).toArray = ls at hl ⊢
  have hl : lv_has ls 4 [(0, .ref (bv_a G 2)), (1, .int p0)] := hl
  refine lv_iconst (v := (-1)) hx hb dX1_bindingOn_0 (by decide) ?_
  refine lv_istore_n (lv' := [(2, .int (-1)), (0, .ref (bv_a G 2)), (1, .int p0)]) hx hb dX1_bindingOn_1 rfl hl (by decide) rfl (fun ls hl => ?_)
  refine lv_iconst (v := 0) hx hb dX1_bindingOn_2 (by decide) ?_
  refine lv_istore_n (lv' := [(3, .int 0), (2, .int (-1)), (0, .ref (bv_a G 2)), (1, .int p0)]) hx hb dX1_bindingOn_3 rfl hl (by decide) rfl (fun ls hl => ?_)
  refine bv_loop (G := G) (z := z) (nL := 4) (head := 4) cn (fun i => S) (fun i => M) (fun i => [(0, .ref (bv_a G 2)), (1, .int p0), (2, .int (bv_bn S p0 i)), (3, .int (nI i))]) (fun i => True) (fun i hi hv ih H locs ls hP hS hl => ?_) (trivial) _ _ _ hP hS (lv_sub hl [2, 3, 1, 0] rfl)
  have hP : bv_H G S M z H := hP
  have hl : lv_has ls 4 [(0, .ref (bv_a G 2)), (1, .int p0), (2, .int (bv_bn S p0 i)), (3, .int (nI i))] := hl
  refine lv_iload_n hx hb dX1_bindingOn_4 rfl (lv_at hl 3 rfl) ?_
  refine lv_aload_n hx hb dX1_bindingOn_5 rfl (lv_at hl 0 rfl) ?_
  refine bv_get_f (ci := 1) (C := RX1) (T := TX1) (N := 6) hx hb hts hin1 hown hK hP (bv_c2 G _ _ _) rfl 0 (by decide) wl0 rfl rfl dX1_bindingOn_6 ?_
  refine lv_icmp_ge (tgt := 65) hx hb dX1_bindingOn_9 (by decide) (fun c_1 => ?_) (fun c_1 => ?_)
  · refine lv_iload_n hx hb dX1_bindingOn_65 rfl (lv_at hl 2 rfl) ?_
    exact bv_iret hx hb hr hlocks hS (Nat.le_of_ble_eq_true rfl) (Nat.le_of_ble_eq_true rfl) dX1_bindingOn_66 (by rw [← bv_eq_of ec (by omega) hi (by assumption)]) hP
  · have hlt : i < cn := bv_lt_of ec (by omega) hi c_1
    refine lv_iload_n hx hb dX1_bindingOn_12 rfl (lv_at hl 3 rfl) ?_
    refine lv_bipush (v := 30) hx hb dX1_bindingOn_13 (by decide) ?_
    refine lv_icmp_ge (tgt := 65) hx hb dX1_bindingOn_15 (by decide) (fun c_2 => ?_) (fun c_2 => ?_)
    · exact absurd c_2 (nI_ge (a := i) (b := 30) (by omega) (by decide))
    · refine lv_aload_n hx hb dX1_bindingOn_18 rfl (lv_at hl 0 rfl) ?_
      refine bv_get_f (ci := 1) (C := RX1) (T := TX1) (N := 6) hx hb hts hin1 hown hK hP (bv_c2 G _ _ _) rfl 5 (by decide) wl1 rfl rfl dX1_bindingOn_19 ?_
      refine lv_iload_n hx hb dX1_bindingOn_22 rfl (lv_at hl 3 rfl) ?_
      refine bv_zald hx hb hK hP 10 (bv_c10 G _ _ _) i (rfl) (by omega) (by decide) dX1_bindingOn_23 ?_
      refine lv_if_eq (tgt := 59) hx hb dX1_bindingOn_24 (by decide) (fun c_3 => ?_) (fun c_3 => ?_)
      · refine lv_iinc (v := nI (i + 1)) (lv' := [(3, .int (nI (i + 1))), (0, .ref (bv_a G 2)), (1, .int p0), (2, .int (bv_bn S p0 i))]) hx hb dX1_bindingOn_59 hl (k := 3) rfl (nI_1 _) (by decide) rfl (fun ls hl => ?_)
        refine lv_goto (tgt := 4) hx hb dX1_bindingOn_62 (by decide) ?_
        have e_2 : bv_bn S p0 i = bv_bn S p0 (i + 1) := by rw [bv_bn_s]; first | exact (if_pos ⟨by assumption, by assumption, Or.inl (by assumption)⟩).symm | exact (if_pos ⟨by assumption, by assumption, Or.inr (by rw [et2]; assumption)⟩).symm | exact (if_neg (fun h => h.1 (by assumption))).symm | exact (if_neg (fun h => absurd h.2.1 (by assumption))).symm | exact (if_neg (fun h => h.2.2.elim (fun q => absurd q (by assumption)) (fun q => q (by rw [et2]; assumption)))).symm
        rw [e_2] at hl
        exact ih (by omega) (trivial) _ _ _ hP hS (lv_sub hl [1, 2, 3, 0] rfl)
      · refine lv_aload_n hx hb dX1_bindingOn_27 rfl (lv_at hl 0 rfl) ?_
        refine bv_get_f (ci := 1) (C := RX1) (T := TX1) (N := 6) hx hb hts hin1 hown hK hP (bv_c2 G _ _ _) rfl 1 (by decide) wl2 rfl rfl dX1_bindingOn_28 ?_
        refine lv_iload_n hx hb dX1_bindingOn_31 rfl (lv_at hl 3 rfl) ?_
        refine bv_iald hx hb hK hP 6 (bv_c6 G _ _ _) i (rfl) (by omega) (by decide) dX1_bindingOn_32 ?_
        refine lv_iload_n hx hb dX1_bindingOn_33 rfl (lv_at hl 1 rfl) ?_
        refine lv_icmp_ne (tgt := 59) hx hb dX1_bindingOn_34 (by decide) (fun c_4 => ?_) (fun c_4 => ?_)
        · refine lv_iinc (v := nI (i + 1)) (lv' := [(3, .int (nI (i + 1))), (0, .ref (bv_a G 2)), (1, .int p0), (2, .int (bv_bn S p0 i))]) hx hb dX1_bindingOn_59 hl (k := 3) rfl (nI_1 _) (by decide) rfl (fun ls hl => ?_)
          refine lv_goto (tgt := 4) hx hb dX1_bindingOn_62 (by decide) ?_
          have e_2 : bv_bn S p0 i = bv_bn S p0 (i + 1) := by rw [bv_bn_s]; first | exact (if_pos ⟨by assumption, by assumption, Or.inl (by assumption)⟩).symm | exact (if_pos ⟨by assumption, by assumption, Or.inr (by rw [et2]; assumption)⟩).symm | exact (if_neg (fun h => h.1 (by assumption))).symm | exact (if_neg (fun h => absurd h.2.1 (by assumption))).symm | exact (if_neg (fun h => h.2.2.elim (fun q => absurd q (by assumption)) (fun q => q (by rw [et2]; assumption)))).symm
          rw [e_2] at hl
          exact ih (by omega) (trivial) _ _ _ hP hS (lv_sub hl [1, 2, 3, 0] rfl)
        · refine lv_iload_n hx hb dX1_bindingOn_37 rfl (lv_at hl 2 rfl) ?_
          refine lv_iconst (v := (-1)) hx hb dX1_bindingOn_38 (by decide) ?_
          refine lv_icmp_eq (tgt := 57) hx hb dX1_bindingOn_39 (by decide) (fun c_5 => ?_) (fun c_5 => ?_)
          · refine lv_iload_n hx hb dX1_bindingOn_57 rfl (lv_at hl 3 rfl) ?_
            refine lv_istore_n (lv' := [(2, .int (nI i)), (0, .ref (bv_a G 2)), (1, .int p0), (3, .int (nI i))]) hx hb dX1_bindingOn_58 rfl hl (by decide) rfl (fun ls hl => ?_)
            refine lv_iinc (v := nI (i + 1)) (lv' := [(3, .int (nI (i + 1))), (2, .int (nI i)), (0, .ref (bv_a G 2)), (1, .int p0)]) hx hb dX1_bindingOn_59 hl (k := 3) rfl (nI_1 _) (by decide) rfl (fun ls hl => ?_)
            refine lv_goto (tgt := 4) hx hb dX1_bindingOn_62 (by decide) ?_
            have e_2 : nI i = bv_bn S p0 (i + 1) := by rw [bv_bn_s]; first | exact (if_pos ⟨by assumption, by assumption, Or.inl (by assumption)⟩).symm | exact (if_pos ⟨by assumption, by assumption, Or.inr (by rw [et2]; assumption)⟩).symm | exact (if_neg (fun h => h.1 (by assumption))).symm | exact (if_neg (fun h => absurd h.2.1 (by assumption))).symm | exact (if_neg (fun h => h.2.2.elim (fun q => absurd q (by assumption)) (fun q => q (by rw [et2]; assumption)))).symm
            rw [e_2] at hl
            exact ih (by omega) (trivial) _ _ _ hP hS (lv_sub hl [2, 3, 1, 0] rfl)
          · refine lv_aload_n hx hb dX1_bindingOn_42 rfl (lv_at hl 0 rfl) ?_
            refine bv_get_f (ci := 1) (C := RX1) (T := TX1) (N := 6) hx hb hts hin1 hown hK hP (bv_c2 G _ _ _) rfl 2 (by decide) wl3 rfl rfl dX1_bindingOn_43 ?_
            refine lv_iload_n hx hb dX1_bindingOn_46 rfl (lv_at hl 3 rfl) ?_
            refine bv_iald hx hb hK hP 7 (bv_c7 G _ _ _) i (rfl) (by omega) (by decide) dX1_bindingOn_47 ?_
            refine lv_aload_n hx hb dX1_bindingOn_48 rfl (lv_at hl 0 rfl) ?_
            refine bv_get_f (ci := 1) (C := RX1) (T := TX1) (N := 6) hx hb hts hin1 hown hK hP (bv_c2 G _ _ _) rfl 2 (by decide) wl3 rfl rfl dX1_bindingOn_49 ?_
            refine lv_iload_n hx hb dX1_bindingOn_52 rfl (lv_at hl 2 rfl) ?_
            obtain ⟨t, ht, et, -, -⟩ := bv_bn_ix c_5
            have et2 : (bv_bn S p0 i).toNatClampNeg = t := by rw [et]; exact nI_clamp (by omega)
            refine bv_iald hx hb hK hP 7 (bv_c7 G _ _ _) t (et) (by omega) (by decide) dX1_bindingOn_53 ?_
            refine lv_icmp_lt (tgt := 59) hx hb dX1_bindingOn_54 (by decide) (fun c_6 => ?_) (fun c_6 => ?_)
            · refine lv_iinc (v := nI (i + 1)) (lv' := [(3, .int (nI (i + 1))), (0, .ref (bv_a G 2)), (1, .int p0), (2, .int (bv_bn S p0 i))]) hx hb dX1_bindingOn_59 hl (k := 3) rfl (nI_1 _) (by decide) rfl (fun ls hl => ?_)
              refine lv_goto (tgt := 4) hx hb dX1_bindingOn_62 (by decide) ?_
              have e_2 : bv_bn S p0 i = bv_bn S p0 (i + 1) := by rw [bv_bn_s]; first | exact (if_pos ⟨by assumption, by assumption, Or.inl (by assumption)⟩).symm | exact (if_pos ⟨by assumption, by assumption, Or.inr (by rw [et2]; assumption)⟩).symm | exact (if_neg (fun h => h.1 (by assumption))).symm | exact (if_neg (fun h => absurd h.2.1 (by assumption))).symm | exact (if_neg (fun h => h.2.2.elim (fun q => absurd q (by assumption)) (fun q => q (by rw [et2]; assumption)))).symm
              rw [e_2] at hl
              exact ih (by omega) (trivial) _ _ _ hP hS (lv_sub hl [1, 2, 3, 0] rfl)
            · refine lv_iload_n hx hb dX1_bindingOn_57 rfl (lv_at hl 3 rfl) ?_
              refine lv_istore_n (lv' := [(2, .int (nI i)), (0, .ref (bv_a G 2)), (1, .int p0), (3, .int (nI i))]) hx hb dX1_bindingOn_58 rfl hl (by decide) rfl (fun ls hl => ?_)
              refine lv_iinc (v := nI (i + 1)) (lv' := [(3, .int (nI (i + 1))), (2, .int (nI i)), (0, .ref (bv_a G 2)), (1, .int p0)]) hx hb dX1_bindingOn_59 hl (k := 3) rfl (nI_1 _) (by decide) rfl (fun ls hl => ?_)
              refine lv_goto (tgt := 4) hx hb dX1_bindingOn_62 (by decide) ?_
              have e_2 : nI i = bv_bn S p0 (i + 1) := by rw [bv_bn_s]; first | exact (if_pos ⟨by assumption, by assumption, Or.inl (by assumption)⟩).symm | exact (if_pos ⟨by assumption, by assumption, Or.inr (by rw [et2]; assumption)⟩).symm | exact (if_neg (fun h => h.1 (by assumption))).symm | exact (if_neg (fun h => absurd h.2.1 (by assumption))).symm | exact (if_neg (fun h => h.2.2.elim (fun q => absurd q (by assumption)) (fun q => q (by rw [et2]; assumption)))).symm
              rw [e_2] at hl
              exact ih (by omega) (trivial) _ _ _ hP hS (lv_sub hl [2, 3, 1, 0] rfl)
set_option maxHeartbeats 4000000 in
set_option maxRecDepth 100000 in
theorem c_X1_isBinding (l : Launch) (G : bv_G) (S M : bv_X) (z : bv_Z) (i : Nat) (cn : Nat) (hi : i < 30) (hh : ¬ S 0 1 ≤ nI i) (hc : cn ≤ 30) (ec : S 0 1 = nI cn) : bv_M l yX1_isBinding wsX1_isBinding ({ frames := 1, cells := 0, slots := 0, locals := 23 }) [.ref (bv_a G 2), .int (nI i)] G S M z (bI (bv_bn S (S 4 i) cn = nI i)) S M z := by
  refine Met.ofW (cc := cX1_isBinding) (maxL := 2) (ret := (some .boolean)) (by decide) rfl ?_
  intro p e s m args below meth c s₁ B hml hv
  obtain ⟨rfl, hz, hP, hK, hE⟩ := hv
  have hx := B.exec
  have hb := B.bytes
  have hr := B.returns
  have hts := atoms_spec (ws := wsX1_isBinding) B.pre
  have hown : s.vm.findClass RX1 = some m.cls := findClass_of_methodNamed B.named
  have hlocks := B.notSynchronized
  have hS : va_S (bv_A G) s.heap s.heap [] := va_S.rf
  have wl0 := hts (.fieldLink RX1 15 "BoxVault$OrderBook" "box" "[I") (by decide +kernel)
  have hin1 : ∀ w ∈ wsX10, w ∈ wsX1_isBinding := (fun w h => List.mem_cons_of_mem _ (List.mem_append_right _ h))
  have hl := lv_entry ([.ref (bv_a G 2), .int (nI i)]) (n := 2) (Nat.le_of_ble_eq_true rfl)
  rw [lg_entry_eq]
  generalize (lg_sl ([.ref (bv_a G 2), .int (nI i)]) ++ List.replicate (2 - (lg_sl ([.ref (bv_a G 2), .int (nI i)])).length) Slot.unset).toArray = ls at hl ⊢
  have hl : lv_has ls 2 [(0, .ref (bv_a G 2)), (1, .int (nI i))] := hl
  refine lv_aload_n hx hb dX1_isBinding_0 rfl (lv_at hl 0 rfl) ?_
  refine lv_iload_n hx hb dX1_isBinding_1 rfl (lv_at hl 1 rfl) ?_
  refine bv_ci (va_runV (As := [.int (nI i)]) (rest := []) ⟨hx, hb, hml, hown, hts⟩ (c_X1_has l G S M z (nI i) ) (cwV 1 hts gX1_isBinding_X1_has rfl rfl rfl (by decide +kernel) ⟨Nat.le_of_ble_eq_true rfl, Nat.le_of_ble_eq_true rfl⟩) (bv_preV hz hP hK hE hS (ci := 1) (bv_c2 G _ _ _) rfl rfl) rfl rfl hl.1 rfl (lv_room (Nat.le_of_ble_eq_true rfl)) dX1_isBinding_2 ⟨Nat.le_of_ble_eq_true rfl, Nat.le_of_ble_eq_true rfl⟩) hS (fun H locs hP hS => ?_)
  refine bv_ifeqB (tgt := 26) hx hb dX1_isBinding_5 (by decide) (fun c_1 => ?_) (fun c_1 => ?_)
  · exact absurd ⟨nI_pos (by omega), hh, nI_ge (a := i) (b := 30) (by omega) (by decide)⟩ c_1
  · refine lv_aload_n hx hb dX1_isBinding_8 rfl (lv_at hl 0 rfl) ?_
    refine lv_aload_n hx hb dX1_isBinding_9 rfl (lv_at hl 0 rfl) ?_
    refine bv_get_f (ci := 1) (C := RX1) (T := TX1) (N := 6) hx hb hts hin1 hown hK hP (bv_c2 G _ _ _) rfl 1 (by decide) wl0 rfl rfl dX1_isBinding_10 ?_
    refine lv_iload_n hx hb dX1_isBinding_13 rfl (lv_at hl 1 rfl) ?_
    refine bv_iald hx hb hK hP 6 (bv_c6 G _ _ _) i (rfl) (by omega) (by decide) dX1_isBinding_14 ?_
    refine bv_ci (va_runV (As := [.int (S 4 i)]) (rest := []) ⟨hx, hb, hml, hown, hts⟩ (c_X1_bindingOn l G S M z (S 4 i) cn (hc) (ec)) (cwV 1 hts gX1_isBinding_X1_bindingOn rfl rfl rfl (by decide +kernel) ⟨Nat.le_of_ble_eq_true rfl, Nat.le_of_ble_eq_true rfl⟩) (bv_preV hz hP hK hE hS (ci := 1) (bv_c2 G _ _ _) rfl rfl) rfl rfl hl.1 rfl (lv_room (Nat.le_of_ble_eq_true rfl)) dX1_isBinding_15 ⟨Nat.le_of_ble_eq_true rfl, Nat.le_of_ble_eq_true rfl⟩) hS (fun H locs hP hS => ?_)
    refine lv_iload_n hx hb dX1_isBinding_18 rfl (lv_at hl 1 rfl) ?_
    refine lv_icmp_ne (tgt := 26) hx hb dX1_isBinding_19 (by decide) (fun c_2 => ?_) (fun c_2 => ?_)
    · refine lv_iconst (v := 0) hx hb dX1_isBinding_26 (by decide) ?_
      exact bv_zret hx hb hr hlocks (rfl) hS (Nat.le_of_ble_eq_true rfl) (Nat.le_of_ble_eq_true rfl) dX1_isBinding_27 (bI_f (by first | assumption | (intro h; contradiction))).symm hP
    · refine lv_iconst (v := 1) hx hb dX1_isBinding_22 (by decide) ?_
      refine lv_goto (tgt := 27) hx hb dX1_isBinding_23 (by decide) ?_
      exact bv_zret hx hb hr hlocks (rfl) hS (Nat.le_of_ble_eq_true rfl) (Nat.le_of_ble_eq_true rfl) dX1_isBinding_27 (bI_t (by first | assumption | (intro h; contradiction))).symm hP
set_option maxHeartbeats 4000000 in
set_option maxRecDepth 100000 in
theorem c_X1_endAllOn (l : Launch) (G : bv_G) (S M : bv_X) (z : bv_Z) (p0 : Int32) (cn : Nat) (hc : cn ≤ 30) (ec : S 0 1 = nI cn) : bv_Mv l yX1_endAllOn wsX1_endAllOn ({ frames := 0, cells := 0, slots := 0, locals := 0 }) [.ref (bv_a G 2), .int p0] G S M z (bv_fr S p0 cn) M z := by
  refine Met.ofW (cc := cX1_endAllOn) (maxL := 3) (ret := none) (by decide) rfl ?_
  intro p e s m args below meth c s₁ B hml hv
  obtain ⟨rfl, hz, hP, hK, hE⟩ := hv
  have hx := B.exec
  have hb := B.bytes
  have hr := B.returns
  have hts := atoms_spec (ws := wsX1_endAllOn) B.pre
  have hown : s.vm.findClass RX1 = some m.cls := findClass_of_methodNamed B.named
  have hlocks := B.notSynchronized
  have hS : va_S (bv_A G) s.heap s.heap [] := va_S.rf
  have wl0 := hts (.fieldLink RX1 9 "BoxVault$OrderBook" "count" "I") (by decide +kernel)
  have wl1 := hts (.fieldLink RX1 15 "BoxVault$OrderBook" "box" "[I") (by decide +kernel)
  have wl2 := hts (.fieldLink RX1 28 "BoxVault$OrderBook" "holds" "[Z") (by decide +kernel)
  have hin1 : ∀ w ∈ wsX10, w ∈ wsX1_endAllOn := (fun w h => List.mem_cons_of_mem _ (List.mem_append_right _ h))
  have hl := lv_entry ([.ref (bv_a G 2), .int p0]) (n := 3) (Nat.le_of_ble_eq_true rfl)
  rw [lg_entry_eq]
  generalize (lg_sl ([.ref (bv_a G 2), .int p0]) ++ List.replicate (3 - (lg_sl ([.ref (bv_a G 2), .int p0])).length) Slot.unset).toArray = ls at hl ⊢
  have hl : lv_has ls 3 [(0, .ref (bv_a G 2)), (1, .int p0)] := hl
  refine lv_iconst (v := 0) hx hb dX1_endAllOn_0 (by decide) ?_
  refine lv_istore_n (lv' := [(2, .int 0), (0, .ref (bv_a G 2)), (1, .int p0)]) hx hb dX1_endAllOn_1 rfl hl (by decide) rfl (fun ls hl => ?_)
  refine bv_loop (G := G) (z := z) (nL := 3) (head := 2) cn (fun i => bv_fr S p0 i) (fun i => M) (fun i => [(0, .ref (bv_a G 2)), (1, .int p0), (2, .int (nI i))]) (fun i => True) (fun i hi hv ih H locs ls hP hS hl => ?_) (trivial) _ _ _ (by rw [bv_fr_0]; exact hP) hS (lv_sub hl [1, 2, 0] rfl)
  have hP : bv_H G (bv_fr S p0 i) M z H := hP
  have hl : lv_has ls 3 [(0, .ref (bv_a G 2)), (1, .int p0), (2, .int (nI i))] := hl
  refine lv_iload_n hx hb dX1_endAllOn_2 rfl (lv_at hl 2 rfl) ?_
  refine lv_aload_n hx hb dX1_endAllOn_3 rfl (lv_at hl 0 rfl) ?_
  refine bv_get_f (ci := 1) (C := RX1) (T := TX1) (N := 6) hx hb hts hin1 hown hK hP (bv_c2 G _ _ _) rfl 0 (by decide) wl0 rfl rfl dX1_endAllOn_4 ?_
  refine lv_icmp_ge (tgt := 39) hx hb dX1_endAllOn_7 (by decide) (fun c_1 => ?_) (fun c_1 => ?_)
  · have c_1 : (S 0 1) ≤ (nI i) := c_1
    have hW : bv_H G (bv_fr S p0 cn) M z H := by
      rw [← bv_eq_of ec (by omega) hi (by assumption)]
      exact hP
    exact bv_vret hx hb hr hlocks hS (Nat.le_of_ble_eq_true rfl) (Nat.le_of_ble_eq_true rfl) dX1_endAllOn_39 hW
  · have c_1 : ¬ (S 0 1) ≤ (nI i) := c_1
    have hlt : i < cn := bv_lt_of ec (by omega) hi c_1
    refine lv_iload_n hx hb dX1_endAllOn_10 rfl (lv_at hl 2 rfl) ?_
    refine lv_bipush (v := 30) hx hb dX1_endAllOn_11 (by decide) ?_
    refine lv_icmp_ge (tgt := 39) hx hb dX1_endAllOn_13 (by decide) (fun c_2 => ?_) (fun c_2 => ?_)
    · exact absurd c_2 (nI_ge (a := i) (b := 30) (by omega) (by decide))
    · have c_2 : ¬ (30 : Int32) ≤ (nI i) := c_2
      refine lv_aload_n hx hb dX1_endAllOn_16 rfl (lv_at hl 0 rfl) ?_
      refine bv_get_f (ci := 1) (C := RX1) (T := TX1) (N := 6) hx hb hts hin1 hown hK hP (bv_c2 G _ _ _) rfl 1 (by decide) wl1 rfl rfl dX1_endAllOn_17 ?_
      refine lv_iload_n hx hb dX1_endAllOn_20 rfl (lv_at hl 2 rfl) ?_
      refine bv_iald hx hb hK hP 6 (bv_c6 G _ _ _) i (rfl) (by omega) (by decide) dX1_endAllOn_21 ?_
      refine lv_iload_n hx hb dX1_endAllOn_22 rfl (lv_at hl 1 rfl) ?_
      refine lv_icmp_ne (tgt := 33) hx hb dX1_endAllOn_23 (by decide) (fun c_3 => ?_) (fun c_3 => ?_)
      · have c_3 : ¬ (S 4 i) = p0 := c_3
        refine lv_iinc (v := nI (i + 1)) (lv' := [(2, .int (nI (i + 1))), (0, .ref (bv_a G 2)), (1, .int p0)]) hx hb dX1_endAllOn_33 hl (k := 2) rfl (nI_1 _) (by decide) rfl (fun ls hl => ?_)
        refine lv_goto (tgt := 2) hx hb dX1_endAllOn_36 (by decide) ?_
        have hW : bv_H G (bv_fr S p0 (i + 1)) M z H := by
          first | (rw [← bv_fr_y (by assumption)]; exact hP) | (rw [← bv_fr_n (by assumption)]; exact hP)
        exact ih (by omega) (trivial) _ _ _ hW hS (lv_sub hl [1, 2, 0] rfl)
      · have c_3 : (S 4 i) = p0 := c_3
        refine lv_aload_n hx hb dX1_endAllOn_26 rfl (lv_at hl 0 rfl) ?_
        refine bv_get_f (ci := 1) (C := RX1) (T := TX1) (N := 6) hx hb hts hin1 hown hK hP (bv_c2 G _ _ _) rfl 5 (by decide) wl2 rfl rfl dX1_endAllOn_27 ?_
        refine lv_iload_n hx hb dX1_endAllOn_30 rfl (lv_at hl 2 rfl) ?_
        refine lv_iconst (v := 0) hx hb dX1_endAllOn_31 (by decide) ?_
        refine bv_zast hx hb hK hP hS 10 (bv_c10 G _ _ _ ) i (rfl) (by omega) (by decide) (rfl) (bv_s10 G _ _ _ _ _) dX1_endAllOn_32 (fun H locs hP hS => ?_)
        refine lv_iinc (v := nI (i + 1)) (lv' := [(2, .int (nI (i + 1))), (0, .ref (bv_a G 2)), (1, .int p0)]) hx hb dX1_endAllOn_33 hl (k := 2) rfl (nI_1 _) (by decide) rfl (fun ls hl => ?_)
        refine lv_goto (tgt := 2) hx hb dX1_endAllOn_36 (by decide) ?_
        have hW : bv_H G (bv_fr S p0 (i + 1)) M z H := by
          first | (rw [← bv_fr_y (by assumption)]; exact hP) | (rw [← bv_fr_n (by assumption)]; exact hP)
        exact ih (by omega) (trivial) _ _ _ hW hS (lv_sub hl [1, 2, 0] rfl)
