set_option maxHeartbeats 4000000 in
set_option maxRecDepth 100000 in
theorem c_X1_isFull (l : Launch) (G : bv_G) (S M : bv_X) (z : bv_Z)   : bv_M l yX1_isFull wsX1_isFull ({ frames := 0, cells := 0, slots := 0, locals := 0 }) [.ref (bv_a G 2)] G S M z (bI (¬ S 0 1 < 30)) S M z := by
  refine Met.ofW (cc := cX1_isFull) (maxL := 1) (ret := (some .boolean)) (by decide) rfl ?_
  intro p e s m args below meth c s₁ B hml hv
  obtain ⟨rfl, hz, hP, hK, hE⟩ := hv
  have hx := B.exec
  have hb := B.bytes
  have hr := B.returns
  have hts := atoms_spec (ws := wsX1_isFull) B.pre
  have hown : s.vm.findClass RX1 = some m.cls := findClass_of_methodNamed B.named
  have hlocks := B.notSynchronized
  have hS : va_S (bv_A G) s.heap s.heap [] := va_S.rf
  have wl0 := hts (.fieldLink RX1 9 "BoxVault$OrderBook" "count" "I") (by decide +kernel)
  have hin1 : ∀ w ∈ wsX10, w ∈ wsX1_isFull := (fun w h => List.mem_cons_of_mem _ (List.mem_append_right _ h))
  have hl := lv_entry ([.ref (bv_a G 2)]) (n := 1) (Nat.le_of_ble_eq_true rfl)
  rw [lg_entry_eq]
  generalize (lg_sl ([.ref (bv_a G 2)]) ++ List.replicate (1 - (lg_sl ([.ref (bv_a G 2)])).length) Slot.unset).toArray = ls at hl ⊢
  have hl : lv_has ls 1 [(0, .ref (bv_a G 2))] := hl
  refine lv_aload_n hx hb dX1_isFull_0 rfl (lv_at hl 0 rfl) ?_
  refine bv_get_f (ci := 1) (C := RX1) (T := TX1) (N := 6) hx hb hts hin1 hown hK hP (bv_c2 G _ _ _) rfl 0 (by decide) wl0 rfl rfl dX1_isFull_1 ?_
  refine lv_bipush (v := 30) hx hb dX1_isFull_4 (by decide) ?_
  refine lv_icmp_lt (tgt := 13) hx hb dX1_isFull_6 (by decide) (fun c_1 => ?_) (fun c_1 => ?_)
  · refine lv_iconst (v := 0) hx hb dX1_isFull_13 (by decide) ?_
    exact bv_zret hx hb hr hlocks (rfl) hS (Nat.le_of_ble_eq_true rfl) (Nat.le_of_ble_eq_true rfl) dX1_isFull_14 (bI_f (by first | assumption | (intro h; contradiction))).symm hP
  · refine lv_iconst (v := 1) hx hb dX1_isFull_9 (by decide) ?_
    refine lv_goto (tgt := 14) hx hb dX1_isFull_10 (by decide) ?_
    exact bv_zret hx hb hr hlocks (rfl) hS (Nat.le_of_ble_eq_true rfl) (Nat.le_of_ble_eq_true rfl) dX1_isFull_14 (bI_t (by first | assumption | (intro h; contradiction))).symm hP
set_option maxHeartbeats 4000000 in
set_option maxRecDepth 100000 in
theorem c_X1_has (l : Launch) (G : bv_G) (S M : bv_X) (z : bv_Z) (p0 : Int32)  : bv_M l yX1_has wsX1_has ({ frames := 0, cells := 0, slots := 0, locals := 0 }) [.ref (bv_a G 2), .int p0] G S M z (bI (¬ p0 < 0 ∧ ¬ S 0 1 ≤ p0 ∧ ¬ 30 ≤ p0)) S M z := by
  refine Met.ofW (cc := cX1_has) (maxL := 2) (ret := (some .boolean)) (by decide) rfl ?_
  intro p e s m args below meth c s₁ B hml hv
  obtain ⟨rfl, hz, hP, hK, hE⟩ := hv
  have hx := B.exec
  have hb := B.bytes
  have hr := B.returns
  have hts := atoms_spec (ws := wsX1_has) B.pre
  have hown : s.vm.findClass RX1 = some m.cls := findClass_of_methodNamed B.named
  have hlocks := B.notSynchronized
  have hS : va_S (bv_A G) s.heap s.heap [] := va_S.rf
  have wl0 := hts (.fieldLink RX1 9 "BoxVault$OrderBook" "count" "I") (by decide +kernel)
  have hin1 : ∀ w ∈ wsX10, w ∈ wsX1_has := (fun w h => List.mem_cons_of_mem _ (List.mem_append_right _ h))
  have hl := lv_entry ([.ref (bv_a G 2), .int p0]) (n := 2) (Nat.le_of_ble_eq_true rfl)
  rw [lg_entry_eq]
  generalize (lg_sl ([.ref (bv_a G 2), .int p0]) ++ List.replicate (2 - (lg_sl ([.ref (bv_a G 2), .int p0])).length) Slot.unset).toArray = ls at hl ⊢
  have hl : lv_has ls 2 [(0, .ref (bv_a G 2)), (1, .int p0)] := hl
  refine lv_iload_n hx hb dX1_has_0 rfl (lv_at hl 1 rfl) ?_
  refine lv_if_lt (tgt := 22) hx hb dX1_has_1 (by decide) (fun c_1 => ?_) (fun c_1 => ?_)
  · refine lv_iconst (v := 0) hx hb dX1_has_22 (by decide) ?_
    exact bv_zret hx hb hr hlocks (rfl) hS (Nat.le_of_ble_eq_true rfl) (Nat.le_of_ble_eq_true rfl) dX1_has_23 (bI_f (by first | exact ⟨c_1, c_2, c_3⟩ | (intro h; exact h.1 (by assumption)) | (intro h; exact h.2.1 (by assumption)) | (intro h; exact h.2.2 (by assumption)))).symm hP
  · refine lv_iload_n hx hb dX1_has_4 rfl (lv_at hl 1 rfl) ?_
    refine lv_aload_n hx hb dX1_has_5 rfl (lv_at hl 0 rfl) ?_
    refine bv_get_f (ci := 1) (C := RX1) (T := TX1) (N := 6) hx hb hts hin1 hown hK hP (bv_c2 G _ _ _) rfl 0 (by decide) wl0 rfl rfl dX1_has_6 ?_
    refine lv_icmp_ge (tgt := 22) hx hb dX1_has_9 (by decide) (fun c_2 => ?_) (fun c_2 => ?_)
    · refine lv_iconst (v := 0) hx hb dX1_has_22 (by decide) ?_
      exact bv_zret hx hb hr hlocks (rfl) hS (Nat.le_of_ble_eq_true rfl) (Nat.le_of_ble_eq_true rfl) dX1_has_23 (bI_f (by first | exact ⟨c_1, c_2, c_3⟩ | (intro h; exact h.1 (by assumption)) | (intro h; exact h.2.1 (by assumption)) | (intro h; exact h.2.2 (by assumption)))).symm hP
    · refine lv_iload_n hx hb dX1_has_12 rfl (lv_at hl 1 rfl) ?_
      refine lv_bipush (v := 30) hx hb dX1_has_13 (by decide) ?_
      refine lv_icmp_ge (tgt := 22) hx hb dX1_has_15 (by decide) (fun c_3 => ?_) (fun c_3 => ?_)
      · refine lv_iconst (v := 0) hx hb dX1_has_22 (by decide) ?_
        exact bv_zret hx hb hr hlocks (rfl) hS (Nat.le_of_ble_eq_true rfl) (Nat.le_of_ble_eq_true rfl) dX1_has_23 (bI_f (by first | exact ⟨c_1, c_2, c_3⟩ | (intro h; exact h.1 (by assumption)) | (intro h; exact h.2.1 (by assumption)) | (intro h; exact h.2.2 (by assumption)))).symm hP
      · refine lv_iconst (v := 1) hx hb dX1_has_18 (by decide) ?_
        refine lv_goto (tgt := 23) hx hb dX1_has_19 (by decide) ?_
        exact bv_zret hx hb hr hlocks (rfl) hS (Nat.le_of_ble_eq_true rfl) (Nat.le_of_ble_eq_true rfl) dX1_has_23 (bI_t (by first | exact ⟨c_1, c_2, c_3⟩ | (intro h; exact h.1 (by assumption)) | (intro h; exact h.2.1 (by assumption)) | (intro h; exact h.2.2 (by assumption)))).symm hP
