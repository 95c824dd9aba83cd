set_option maxHeartbeats 4000000 in
set_option maxRecDepth 100000 in
theorem c_X3_thrown (l : Launch) (G : bv_G) (S M : bv_X) (z : bv_Z)   : bv_M l yX3_thrown wsX3_thrown ({ frames := 0, cells := 0, slots := 0, locals := 0 }) [.ref (bv_a G 43)] G S M z (z.1) S M z := by
  refine Met.ofW (cc := cX3_thrown) (maxL := 1) (ret := (some .int)) (by decide) rfl ?_
  intro p e s m args below meth c s₁ B hml hv
  obtain ⟨rfl, hz, hP, hK, hE⟩ := hv
  have hx := B.exec
  have hb := B.bytes
  have hr := B.returns
  have hts := atoms_spec (ws := wsX3_thrown) B.pre
  have hown : s.vm.findClass RX3 = some m.cls := findClass_of_methodNamed B.named
  have hlocks := B.notSynchronized
  have hS : va_S (bv_A G) s.heap s.heap [] := va_S.rf
  have wl0 := hts (.fieldLink RX3 65 "BoxVaultModel" "thrown" "I") (by decide +kernel)
  have hin3 : ∀ w ∈ wsX30, w ∈ wsX3_thrown := (fun w h => List.mem_cons_of_mem _ (List.mem_append_right _ h))
  have hl := lv_entry ([.ref (bv_a G 43)]) (n := 1) (Nat.le_of_ble_eq_true rfl)
  rw [lg_entry_eq]
  generalize (lg_sl ([.ref (bv_a G 43)]) ++ List.replicate (1 - (lg_sl ([.ref (bv_a G 43)])).length) Slot.unset).toArray = ls at hl ⊢
  have hl : lv_has ls 1 [(0, .ref (bv_a G 43))] := hl
  refine lv_aload_n hx hb dX3_thrown_0 rfl (lv_at hl 0 rfl) ?_
  refine bv_get_f (ci := 3) (C := RX3) (T := TX3) (N := 21) hx hb hts hin3 hown hK hP (bv_c43 G _ _ _) rfl 0 (by decide) wl0 rfl rfl dX3_thrown_1 ?_
  exact bv_iret hx hb hr hlocks hS (Nat.le_of_ble_eq_true rfl) (Nat.le_of_ble_eq_true rfl) dX3_thrown_4 rfl hP
set_option maxHeartbeats 4000000 in
set_option maxRecDepth 100000 in
theorem c_X3_fails (l : Launch) (G : bv_G) (S M : bv_X) (z : bv_Z) (p0 : Int32)  : bv_M l yX3_fails wsX3_fails ({ frames := 0, cells := 0, slots := 0, locals := 0 }) [.ref (bv_a G 43), .int p0] G S M z (0) S M (p0, z.2) := by
  refine Met.ofW (cc := cX3_fails) (maxL := 2) (ret := (some .int)) (by decide) rfl ?_
  intro p e s m args below meth c s₁ B hml hv
  obtain ⟨rfl, hz, hP, hK, hE⟩ := hv
  have hx := B.exec
  have hb := B.bytes
  have hr := B.returns
  have hts := atoms_spec (ws := wsX3_fails) B.pre
  have hown : s.vm.findClass RX3 = some m.cls := findClass_of_methodNamed B.named
  have hlocks := B.notSynchronized
  have hS : va_S (bv_A G) s.heap s.heap [] := va_S.rf
  have wl0 := hts (.fieldLink RX3 65 "BoxVaultModel" "thrown" "I") (by decide +kernel)
  have hin3 : ∀ w ∈ wsX30, w ∈ wsX3_fails := (fun w h => List.mem_cons_of_mem _ (List.mem_append_right _ h))
  have hl := lv_entry ([.ref (bv_a G 43), .int p0]) (n := 2) (Nat.le_of_ble_eq_true rfl)
  rw [lg_entry_eq]
  generalize (lg_sl ([.ref (bv_a G 43), .int p0]) ++ List.replicate (2 - (lg_sl ([.ref (bv_a G 43), .int p0])).length) Slot.unset).toArray = ls at hl ⊢
  have hl : lv_has ls 2 [(0, .ref (bv_a G 43)), (1, .int p0)] := hl
  refine lv_aload_n hx hb dX3_fails_0 rfl (lv_at hl 0 rfl) ?_
  refine lv_iload_n hx hb dX3_fails_1 rfl (lv_at hl 1 rfl) ?_
  refine bv_put_f (ci := 3) (C := RX3) (T := TX3) (N := 21) (ty := .int) hx hb hts hin3 tyX3 tyX3_ok nmX3 hown hK hP hS (bv_c43 G _ _ _) rfl 0 (by decide) wl0 rfl rfl rfl rfl rfl (Nat.le_of_ble_eq_true rfl) rfl (bv_sth G _ _ _ _) dX3_fails_2 (fun H locs hP hS => ?_)
  refine lv_iconst (v := 0) hx hb dX3_fails_5 (by decide) ?_
  exact bv_iret hx hb hr hlocks hS (Nat.le_of_ble_eq_true rfl) (Nat.le_of_ble_eq_true rfl) dX3_fails_6 rfl hP
set_option maxHeartbeats 4000000 in
set_option maxRecDepth 100000 in
theorem c_X3_in (l : Launch) (G : bv_G) (S M : bv_X) (z : bv_Z) (p0 : Int32) (p1 : Int32) (p2 : Int32)  : bv_M l yX3_in wsX3_in ({ frames := 0, cells := 0, slots := 0, locals := 0 }) [.int p0, .int p1, .int p2] G S M z (bI (bv_rg p0 p1 p2)) S M z := by
  refine Met.ofW (cc := cX3_in) (maxL := 3) (ret := (some .boolean)) (by decide) rfl ?_
  intro p e s m args below meth c s₁ B hml hv
  obtain ⟨rfl, hz, hP, hK, hE⟩ := hv
  have hx := B.exec
  have hb := B.bytes
  have hr := B.returns
  have hts := atoms_spec (ws := wsX3_in) B.pre
  have hown : s.vm.findClass RX3 = some m.cls := findClass_of_methodNamed B.named
  have hlocks := B.notSynchronized
  have hS : va_S (bv_A G) s.heap s.heap [] := va_S.rf
  have hl := lv_entry ([.int p0, .int p1, .int p2]) (n := 3) (Nat.le_of_ble_eq_true rfl)
  rw [lg_entry_eq]
  generalize (lg_sl ([.int p0, .int p1, .int p2]) ++ List.replicate (3 - (lg_sl ([.int p0, .int p1, .int p2])).length) Slot.unset).toArray = ls at hl ⊢
  have hl : lv_has ls 3 [(0, .int p0), (1, .int p1), (2, .int p2)] := hl
  refine lv_iload_n hx hb dX3_in_0 rfl (lv_at hl 0 rfl) ?_
  refine lv_iload_n hx hb dX3_in_1 rfl (lv_at hl 1 rfl) ?_
  refine lv_icmp_lt (tgt := 14) hx hb dX3_in_2 (by decide) (fun c_1 => ?_) (fun c_1 => ?_)
  · refine lv_iconst (v := 0) hx hb dX3_in_14 (by decide) ?_
    exact bv_zret hx hb hr hlocks (rfl) hS (Nat.le_of_ble_eq_true rfl) (Nat.le_of_ble_eq_true rfl) dX3_in_15 (bI_f (by first | exact ⟨by assumption, by assumption⟩ | (intro h; exact absurd h.1 (by assumption)) | (intro h; exact h.1 (by assumption)) | (intro h; exact absurd h.2 (by assumption)) | (intro h; exact h.2 (by assumption)))).symm hP
  · refine lv_iload_n hx hb dX3_in_5 rfl (lv_at hl 0 rfl) ?_
    refine lv_iload_n hx hb dX3_in_6 rfl (lv_at hl 2 rfl) ?_
    refine lv_icmp_gt (tgt := 14) hx hb dX3_in_7 (by decide) (fun c_2 => ?_) (fun c_2 => ?_)
    · refine lv_iconst (v := 0) hx hb dX3_in_14 (by decide) ?_
      exact bv_zret hx hb hr hlocks (rfl) hS (Nat.le_of_ble_eq_true rfl) (Nat.le_of_ble_eq_true rfl) dX3_in_15 (bI_f (by first | exact ⟨by assumption, by assumption⟩ | (intro h; exact absurd h.1 (by assumption)) | (intro h; exact h.1 (by assumption)) | (intro h; exact absurd h.2 (by assumption)) | (intro h; exact h.2 (by assumption)))).symm hP
    · refine lv_iconst (v := 1) hx hb dX3_in_10 (by decide) ?_
      refine lv_goto (tgt := 15) hx hb dX3_in_11 (by decide) ?_
      exact bv_zret hx hb hr hlocks (rfl) hS (Nat.le_of_ble_eq_true rfl) (Nat.le_of_ble_eq_true rfl) dX3_in_15 (bI_t (by first | exact ⟨by assumption, by assumption⟩ | (intro h; exact absurd h.1 (by assumption)) | (intro h; exact h.1 (by assumption)) | (intro h; exact absurd h.2 (by assumption)) | (intro h; exact h.2 (by assumption)))).symm hP
set_option maxHeartbeats 4000000 in
set_option maxRecDepth 100000 in
theorem c_X3_isBox (l : Launch) (G : bv_G) (S M : bv_X) (z : bv_Z) (p0 : Int32)  : bv_M l yX3_isBox wsX3_isBox ({ frames := 1, cells := 0, slots := 0, locals := 22 }) [.int p0] G S M z (bI (bv_rg p0 0 7)) S M z := by
  refine Met.ofW (cc := cX3_isBox) (maxL := 1) (ret := (some .boolean)) (by decide) rfl ?_
  intro p e s m args below meth c s₁ B hml hv
  obtain ⟨rfl, hz, hP, hK, hE⟩ := hv
  have hx := B.exec
  have hb := B.bytes
  have hr := B.returns
  have hts := atoms_spec (ws := wsX3_isBox) B.pre
  have hown : s.vm.findClass RX3 = some m.cls := findClass_of_methodNamed B.named
  have hlocks := B.notSynchronized
  have hS : va_S (bv_A G) s.heap s.heap [] := va_S.rf
  have hl := lv_entry ([.int p0]) (n := 1) (Nat.le_of_ble_eq_true rfl)
  rw [lg_entry_eq]
  generalize (lg_sl ([.int p0]) ++ List.replicate (1 - (lg_sl ([.int p0])).length) Slot.unset).toArray = ls at hl ⊢
  have hl : lv_has ls 1 [(0, .int p0)] := hl
  refine lv_iload_n hx hb dX3_isBox_0 rfl (lv_at hl 0 rfl) ?_
  refine lv_iconst (v := 0) hx hb dX3_isBox_1 (by decide) ?_
  refine lv_bipush (v := 7) hx hb dX3_isBox_2 (by decide) ?_
  refine bv_ci (va_runS (As := [.int p0, .int 0, .int 7]) (rest := []) ⟨hx, hb, hml, hown, hts⟩ (c_X3_in l G S M z p0 0 7 ) (va_cwS 3 hts gX3_isBox_X3_in rfl rfl rfl (by decide +kernel) ⟨Nat.le_of_ble_eq_true rfl, Nat.le_of_ble_eq_true rfl⟩) (bv_preS hz hP hK hE hS) rfl rfl hl.1 rfl (lv_room (Nat.le_of_ble_eq_true rfl)) dX3_isBox_4 ⟨Nat.le_of_ble_eq_true rfl, Nat.le_of_ble_eq_true rfl⟩) hS (fun H locs hP hS => ?_)
  exact bv_zret hx hb hr hlocks (bI_nz) hS (Nat.le_of_ble_eq_true rfl) (Nat.le_of_ble_eq_true rfl) dX3_isBox_7 rfl hP
set_option maxHeartbeats 4000000 in
set_option maxRecDepth 100000 in
theorem c_X3_isPerson (l : Launch) (G : bv_G) (S M : bv_X) (z : bv_Z) (p0 : Int32)  : bv_M l yX3_isPerson wsX3_isPerson ({ frames := 1, cells := 0, slots := 0, locals := 22 }) [.int p0] G S M z (bI (bv_rg p0 0 15)) S M z := by
  refine Met.ofW (cc := cX3_isPerson) (maxL := 1) (ret := (some .boolean)) (by decide) rfl ?_
  intro p e s m args below meth c s₁ B hml hv
  obtain ⟨rfl, hz, hP, hK, hE⟩ := hv
  have hx := B.exec
  have hb := B.bytes
  have hr := B.returns
  have hts := atoms_spec (ws := wsX3_isPerson) B.pre
  have hown : s.vm.findClass RX3 = some m.cls := findClass_of_methodNamed B.named
  have hlocks := B.notSynchronized
  have hS : va_S (bv_A G) s.heap s.heap [] := va_S.rf
  have hl := lv_entry ([.int p0]) (n := 1) (Nat.le_of_ble_eq_true rfl)
  rw [lg_entry_eq]
  generalize (lg_sl ([.int p0]) ++ List.replicate (1 - (lg_sl ([.int p0])).length) Slot.unset).toArray = ls at hl ⊢
  have hl : lv_has ls 1 [(0, .int p0)] := hl
  refine lv_iload_n hx hb dX3_isPerson_0 rfl (lv_at hl 0 rfl) ?_
  refine lv_iconst (v := 0) hx hb dX3_isPerson_1 (by decide) ?_
  refine lv_bipush (v := 15) hx hb dX3_isPerson_2 (by decide) ?_
  refine bv_ci (va_runS (As := [.int p0, .int 0, .int 15]) (rest := []) ⟨hx, hb, hml, hown, hts⟩ (c_X3_in l G S M z p0 0 15 ) (va_cwS 3 hts gX3_isPerson_X3_in rfl rfl rfl (by decide +kernel) ⟨Nat.le_of_ble_eq_true rfl, Nat.le_of_ble_eq_true rfl⟩) (bv_preS hz hP hK hE hS) rfl rfl hl.1 rfl (lv_room (Nat.le_of_ble_eq_true rfl)) dX3_isPerson_4 ⟨Nat.le_of_ble_eq_true rfl, Nat.le_of_ble_eq_true rfl⟩) hS (fun H locs hP hS => ?_)
  exact bv_zret hx hb hr hlocks (bI_nz) hS (Nat.le_of_ble_eq_true rfl) (Nat.le_of_ble_eq_true rfl) dX3_isPerson_7 rfl hP
set_option maxHeartbeats 4000000 in
set_option maxRecDepth 100000 in
theorem c_X3_isRented (l : Launch) (G : bv_G) (S M : bv_X) (z : bv_Z) (j : Nat) (hj : j < 8) : bv_M l yX3_isRented wsX3_isRented ({ frames := 0, cells := 0, slots := 0, locals := 0 }) [.ref (bv_a G 43), .int (nI j)] G S M z (bI (M 9 j = 1)) S M z := by
  refine Met.ofW (cc := cX3_isRented) (maxL := 2) (ret := (some .boolean)) (by decide) rfl ?_
  intro p e s m args below meth c s₁ B hml hv
  obtain ⟨rfl, hz, hP, hK, hE⟩ := hv
  have hx := B.exec
  have hb := B.bytes
  have hr := B.returns
  have hts := atoms_spec (ws := wsX3_isRented) B.pre
  have hown : s.vm.findClass RX3 = some m.cls := findClass_of_methodNamed B.named
  have hlocks := B.notSynchronized
  have hS : va_S (bv_A G) s.heap s.heap [] := va_S.rf
  have wl0 := hts (.fieldLink RX3 20 "BoxVaultModel" "state" "[I") (by decide +kernel)
  have hin3 : ∀ w ∈ wsX30, w ∈ wsX3_isRented := (fun w h => List.mem_cons_of_mem _ (List.mem_append_right _ h))
  have hl := lv_entry ([.ref (bv_a G 43), .int (nI j)]) (n := 2) (Nat.le_of_ble_eq_true rfl)
  rw [lg_entry_eq]
  generalize (lg_sl ([.ref (bv_a G 43), .int (nI j)]) ++ List.replicate (2 - (lg_sl ([.ref (bv_a G 43), .int (nI j)])).length) Slot.unset).toArray = ls at hl ⊢
  have hl : lv_has ls 2 [(0, .ref (bv_a G 43)), (1, .int (nI j))] := hl
  refine lv_aload_n hx hb dX3_isRented_0 rfl (lv_at hl 0 rfl) ?_
  refine bv_get_f (ci := 3) (C := RX3) (T := TX3) (N := 21) hx hb hts hin3 hown hK hP (bv_c43 G _ _ _) rfl 5 (by decide) wl0 rfl rfl dX3_isRented_1 ?_
  refine lv_iload_n hx hb dX3_isRented_4 rfl (lv_at hl 1 rfl) ?_
  refine bv_iald hx hb hK hP 47 (bv_c47 G _ _ _) j (rfl) (hj) (by decide) dX3_isRented_5 ?_
  refine lv_iconst (v := 1) hx hb dX3_isRented_6 (by decide) ?_
  refine lv_icmp_ne (tgt := 14) hx hb dX3_isRented_7 (by decide) (fun c_1 => ?_) (fun c_1 => ?_)
  · refine lv_iconst (v := 0) hx hb dX3_isRented_14 (by decide) ?_
    exact bv_zret hx hb hr hlocks (rfl) hS (Nat.le_of_ble_eq_true rfl) (Nat.le_of_ble_eq_true rfl) dX3_isRented_15 (bI_f (by first | assumption | (intro h; contradiction))).symm hP
  · refine lv_iconst (v := 1) hx hb dX3_isRented_10 (by decide) ?_
    refine lv_goto (tgt := 15) hx hb dX3_isRented_11 (by decide) ?_
    exact bv_zret hx hb hr hlocks (rfl) hS (Nat.le_of_ble_eq_true rfl) (Nat.le_of_ble_eq_true rfl) dX3_isRented_15 (bI_t (by first | assumption | (intro h; contradiction))).symm hP
set_option maxHeartbeats 4000000 in
set_option maxRecDepth 100000 in
theorem c_X3_overdue (l : Launch) (G : bv_G) (S M : bv_X) (z : bv_Z) (j : Nat) (hj : j < 8) : bv_M l yX3_overdue wsX3_overdue ({ frames := 0, cells := 0, slots := 0, locals := 0 }) [.ref (bv_a G 43), .int (nI j)] G S M z (bv_ov (M 0 0) (M 11 j)) S M z := by
  refine Met.ofW (cc := cX3_overdue) (maxL := 2) (ret := (some .int)) (by decide) rfl ?_
  intro p e s m args below meth c s₁ B hml hv
  obtain ⟨rfl, hz, hP, hK, hE⟩ := hv
  have hx := B.exec
  have hb := B.bytes
  have hr := B.returns
  have hts := atoms_spec (ws := wsX3_overdue) B.pre
  have hown : s.vm.findClass RX3 = some m.cls := findClass_of_methodNamed B.named
  have hlocks := B.notSynchronized
  have hS : va_S (bv_A G) s.heap s.heap [] := va_S.rf
  have wl0 := hts (.fieldLink RX3 73 "BoxVaultModel" "now" "I") (by decide +kernel)
  have wl1 := hts (.fieldLink RX3 26 "BoxVaultModel" "paid" "[I") (by decide +kernel)
  have hin3 : ∀ w ∈ wsX30, w ∈ wsX3_overdue := (fun w h => List.mem_cons_of_mem _ (List.mem_append_right _ h))
  have hl := lv_entry ([.ref (bv_a G 43), .int (nI j)]) (n := 2) (Nat.le_of_ble_eq_true rfl)
  rw [lg_entry_eq]
  generalize (lg_sl ([.ref (bv_a G 43), .int (nI j)]) ++ List.replicate (2 - (lg_sl ([.ref (bv_a G 43), .int (nI j)])).length) Slot.unset).toArray = ls at hl ⊢
  have hl : lv_has ls 2 [(0, .ref (bv_a G 43)), (1, .int (nI j))] := hl
  refine lv_aload_n hx hb dX3_overdue_0 rfl (lv_at hl 0 rfl) ?_
  refine bv_get_f (ci := 3) (C := RX3) (T := TX3) (N := 21) hx hb hts hin3 hown hK hP (bv_c43 G _ _ _) rfl 1 (by decide) wl0 rfl rfl dX3_overdue_1 ?_
  refine lv_aload_n hx hb dX3_overdue_4 rfl (lv_at hl 0 rfl) ?_
  refine bv_get_f (ci := 3) (C := RX3) (T := TX3) (N := 21) hx hb hts hin3 hown hK hP (bv_c43 G _ _ _) rfl 7 (by decide) wl1 rfl rfl dX3_overdue_5 ?_
  refine lv_iload_n hx hb dX3_overdue_8 rfl (lv_at hl 1 rfl) ?_
  refine bv_iald hx hb hK hP 49 (bv_c49 G _ _ _) j (rfl) (hj) (by decide) dX3_overdue_9 ?_
  refine lv_icmp_le (tgt := 27) hx hb dX3_overdue_10 (by decide) (fun c_1 => ?_) (fun c_1 => ?_)
  · refine lv_iconst (v := 0) hx hb dX3_overdue_27 (by decide) ?_
    exact bv_iret hx hb hr hlocks hS (Nat.le_of_ble_eq_true rfl) (Nat.le_of_ble_eq_true rfl) dX3_overdue_28 (by first | exact (if_pos (by assumption)).symm | exact (if_neg (by assumption)).symm) hP
  · refine lv_aload_n hx hb dX3_overdue_13 rfl (lv_at hl 0 rfl) ?_
    refine bv_get_f (ci := 3) (C := RX3) (T := TX3) (N := 21) hx hb hts hin3 hown hK hP (bv_c43 G _ _ _) rfl 1 (by decide) wl0 rfl rfl dX3_overdue_14 ?_
    refine lv_aload_n hx hb dX3_overdue_17 rfl (lv_at hl 0 rfl) ?_
    refine bv_get_f (ci := 3) (C := RX3) (T := TX3) (N := 21) hx hb hts hin3 hown hK hP (bv_c43 G _ _ _) rfl 7 (by decide) wl1 rfl rfl dX3_overdue_18 ?_
    refine lv_iload_n hx hb dX3_overdue_21 rfl (lv_at hl 1 rfl) ?_
    refine bv_iald hx hb hK hP 49 (bv_c49 G _ _ _) j (rfl) (hj) (by decide) dX3_overdue_22 ?_
    refine lv_isub hx hb dX3_overdue_23 ?_
    refine lv_goto (tgt := 28) hx hb dX3_overdue_24 (by decide) ?_
    exact bv_iret hx hb hr hlocks hS (Nat.le_of_ble_eq_true rfl) (Nat.le_of_ble_eq_true rfl) dX3_overdue_28 (by first | exact (if_pos (by assumption)).symm | exact (if_neg (by assumption)).symm) hP
set_option maxHeartbeats 4000000 in
set_option maxRecDepth 100000 in
theorem c_X3_noticesOf (l : Launch) (G : bv_G) (S M : bv_X) (z : bv_Z) (j : Nat) (hj : j < 8) : bv_M l yX3_noticesOf wsX3_noticesOf ({ frames := 1, cells := 0, slots := 0, locals := 21 }) [.ref (bv_a G 43), .int (nI j)] G S M z (bv_nt M j) S M z := by
  refine Met.ofW (cc := cX3_noticesOf) (maxL := 3) (ret := (some .int)) (by decide) rfl ?_
  intro p e s m args below meth c s₁ B hml hv
  obtain ⟨rfl, hz, hP, hK, hE⟩ := hv
  have hx := B.exec
  have hb := B.bytes
  have hr := B.returns
  have hts := atoms_spec (ws := wsX3_noticesOf) B.pre
  have hown : s.vm.findClass RX3 = some m.cls := findClass_of_methodNamed B.named
  have hlocks := B.notSynchronized
  have hS : va_S (bv_A G) s.heap s.heap [] := va_S.rf
  have hl := lv_entry ([.ref (bv_a G 43), .int (nI j)]) (n := 3) (Nat.le_of_ble_eq_true rfl)
  rw [lg_entry_eq]
  generalize (lg_sl ([.ref (bv_a G 43), .int (nI j)]) ++ List.replicate (3 - (lg_sl ([.ref (bv_a G 43), .int (nI j)])).length) Slot.unset).toArray = ls at hl ⊢
  have hl : lv_has ls 3 [(0, .ref (bv_a G 43)), (1, .int (nI j))] := hl
  refine lv_aload_n hx hb dX3_noticesOf_0 rfl (lv_at hl 0 rfl) ?_
  refine lv_iload_n hx hb dX3_noticesOf_1 rfl (lv_at hl 1 rfl) ?_
  refine bv_ci (va_runV (As := [.int (nI j)]) (rest := []) ⟨hx, hb, hml, hown, hts⟩ (c_X3_overdue l G S M z j (by omega)) (cwV 1 hts gX3_noticesOf_X3_overdue rfl rfl rfl (by decide +kernel) ⟨Nat.le_of_ble_eq_true rfl, Nat.le_of_ble_eq_true rfl⟩) (bv_preV hz hP hK hE hS (ci := 3) (bv_c43 G _ _ _) rfl rfl) rfl rfl hl.1 rfl (lv_room (Nat.le_of_ble_eq_true rfl)) dX3_noticesOf_2 ⟨Nat.le_of_ble_eq_true rfl, Nat.le_of_ble_eq_true rfl⟩) hS (fun H locs hP hS => ?_)
  refine lv_bipush (v := 30) hx hb dX3_noticesOf_5 (by decide) ?_
  refine lv_idiv hx hb dX3_noticesOf_7 (by decide) ?_
  refine lv_istore_n (lv' := [(2, .int ((bv_ov (M 0 0) (M 11 j)) / 30)), (0, .ref (bv_a G 43)), (1, .int (nI j))]) hx hb dX3_noticesOf_8 rfl hl (by decide) rfl (fun ls hl => ?_)
  refine lv_aload_n hx hb dX3_noticesOf_9 rfl (lv_at hl 1 rfl) ?_
  refine lv_iload_n hx hb dX3_noticesOf_10 rfl (lv_at hl 2 rfl) ?_
  refine bv_ci (va_runV (As := [.int (nI j)]) (rest := []) ⟨hx, hb, hml, hown, hts⟩ (c_X3_isRented l G S M z j (by omega)) (cwV 1 hts gX3_noticesOf_X3_isRented rfl rfl rfl (by decide +kernel) ⟨Nat.le_of_ble_eq_true rfl, Nat.le_of_ble_eq_true rfl⟩) (bv_preV hz hP hK hE hS (ci := 3) (bv_c43 G _ _ _) rfl rfl) rfl rfl hl.1 rfl (lv_room (Nat.le_of_ble_eq_true rfl)) dX3_noticesOf_11 ⟨Nat.le_of_ble_eq_true rfl, Nat.le_of_ble_eq_true rfl⟩) hS (fun H locs hP hS => ?_)
  refine bv_ifneB (tgt := 21) hx hb dX3_noticesOf_14 (by decide) (fun c_1 => ?_) (fun c_1 => ?_)
  · refine lv_iload_n hx hb dX3_noticesOf_21 rfl (lv_at hl 0 rfl) ?_
    refine lv_iconst (v := 3) hx hb dX3_noticesOf_22 (by decide) ?_
    refine lv_icmp_le (tgt := 30) hx hb dX3_noticesOf_23 (by decide) (fun c_2 => ?_) (fun c_2 => ?_)
    · refine lv_iload_n hx hb dX3_noticesOf_30 rfl (lv_at hl 0 rfl) ?_
      exact bv_iret hx hb hr hlocks hS (Nat.le_of_ble_eq_true rfl) (Nat.le_of_ble_eq_true rfl) dX3_noticesOf_31 (by simp [bv_nt, c_1, c_2]) hP
    · refine lv_iconst (v := 3) hx hb dX3_noticesOf_26 (by decide) ?_
      refine lv_goto (tgt := 31) hx hb dX3_noticesOf_27 (by decide) ?_
      exact bv_iret hx hb hr hlocks hS (Nat.le_of_ble_eq_true rfl) (Nat.le_of_ble_eq_true rfl) dX3_noticesOf_31 (by simp [bv_nt, c_1, c_2]) hP
  · refine lv_iconst (v := 0) hx hb dX3_noticesOf_17 (by decide) ?_
    refine lv_goto (tgt := 31) hx hb dX3_noticesOf_18 (by decide) ?_
    exact bv_iret hx hb hr hlocks hS (Nat.le_of_ble_eq_true rfl) (Nat.le_of_ble_eq_true rfl) dX3_noticesOf_31 (by simp [bv_nt, c_1]) hP
set_option maxHeartbeats 4000000 in
set_option maxRecDepth 100000 in
theorem c_X3_binds (l : Launch) (G : bv_G) (S M : bv_X) (z : bv_Z) (p0 : Int32) (cn : Nat) (hc : cn ≤ 30) (ec : M 0 1 = nI cn) : bv_M l yX3_binds wsX3_binds ({ frames := 0, cells := 0, slots := 0, locals := 0 }) [.ref (bv_a G 43), .int p0] G S M z (bv_bn M p0 cn) S M z := by
  refine Met.ofW (cc := cX3_binds) (maxL := 5) (ret := (some .int)) (by decide) rfl ?_
  intro p e s m args below meth c s₁ B hml hv
  obtain ⟨rfl, hz, hP, hK, hE⟩ := hv
  have hx := B.exec
  have hb := B.bytes
  have hr := B.returns
  have hts := atoms_spec (ws := wsX3_binds) B.pre
  have hown : s.vm.findClass RX3 = some m.cls := findClass_of_methodNamed B.named
  have hlocks := B.notSynchronized
  have hS : va_S (bv_A G) s.heap s.heap [] := va_S.rf
  have wl0 := hts (.fieldLink RX3 84 "BoxVaultModel" "orders" "I") (by decide +kernel)
  have wl1 := hts (.fieldLink RX3 62 "BoxVaultModel" "holds" "[Z") (by decide +kernel)
  have wl2 := hts (.fieldLink RX3 50 "BoxVaultModel" "at" "[I") (by decide +kernel)
  have wl3 := hts (.fieldLink RX3 53 "BoxVaultModel" "court" "[I") (by decide +kernel)
  have hin3 : ∀ w ∈ wsX30, w ∈ wsX3_binds := (fun w h => List.mem_cons_of_mem _ (List.mem_append_right _ h))
  have hl := lv_entry ([.ref (bv_a G 43), .int p0]) (n := 5) (Nat.le_of_ble_eq_true rfl)
  rw [lg_entry_eq]
  generalize (lg_sl ([.ref (bv_a G 43), .int p0]) ++ List.replicate (5 - (lg_sl ([.ref (bv_a G 43), .int p0])).length) Slot.unset).toArray = ls at hl ⊢
  have hl : lv_has ls 5 [(0, .ref (bv_a G 43)), (1, .int p0)] := hl
  refine lv_iconst (v := (-1)) hx hb dX3_binds_0 (by decide) ?_
  refine lv_istore_n (lv' := [(2, .int (-1)), (0, .ref (bv_a G 43)), (1, .int p0)]) hx hb dX3_binds_1 rfl hl (by decide) rfl (fun ls hl => ?_)
  refine lv_iconst (v := 0) hx hb dX3_binds_2 (by decide) ?_
  refine lv_istore_n (lv' := [(3, .int 0), (2, .int (-1)), (0, .ref (bv_a G 43)), (1, .int p0)]) hx hb dX3_binds_3 rfl hl (by decide) rfl (fun ls hl => ?_)
  refine bv_loop (G := G) (z := z) (nL := 5) (head := 4) cn (fun i => S) (fun i => M) (fun i => [(0, .ref (bv_a G 43)), (1, .int p0), (2, .int (bv_bn M p0 i)), (3, .int (nI i))]) (fun i => True) (fun i hi hv ih H locs ls hP hS hl => ?_) (trivial) _ _ _ hP hS (lv_sub hl [2, 3, 1, 0] rfl)
  have hP : bv_H G S M z H := hP
  have hl : lv_has ls 5 [(0, .ref (bv_a G 43)), (1, .int p0), (2, .int (bv_bn M p0 i)), (3, .int (nI i))] := hl
  refine lv_iload_n hx hb dX3_binds_4 rfl (lv_at hl 3 rfl) ?_
  refine lv_aload_n hx hb dX3_binds_5 rfl (lv_at hl 0 rfl) ?_
  refine bv_get_f (ci := 3) (C := RX3) (T := TX3) (N := 21) hx hb hts hin3 hown hK hP (bv_c43 G _ _ _) rfl 15 (by decide) wl0 rfl rfl dX3_binds_6 ?_
  refine lv_icmp_ge (tgt := 75) hx hb dX3_binds_9 (by decide) (fun c_1 => ?_) (fun c_1 => ?_)
  · refine lv_iload_n hx hb dX3_binds_75 rfl (lv_at hl 2 rfl) ?_
    exact bv_iret hx hb hr hlocks hS (Nat.le_of_ble_eq_true rfl) (Nat.le_of_ble_eq_true rfl) dX3_binds_76 (by rw [← bv_eq_of ec (by omega) hi (by assumption)]) hP
  · have hlt : i < cn := bv_lt_of ec (by omega) hi c_1
    refine lv_aload_n hx hb dX3_binds_12 rfl (lv_at hl 0 rfl) ?_
    refine bv_get_f (ci := 3) (C := RX3) (T := TX3) (N := 21) hx hb hts hin3 hown hK hP (bv_c43 G _ _ _) rfl 20 (by decide) wl1 rfl rfl dX3_binds_13 ?_
    refine lv_iload_n hx hb dX3_binds_16 rfl (lv_at hl 3 rfl) ?_
    refine bv_zald hx hb hK hP 61 (bv_c61 G _ _ _) i (rfl) (by omega) (by decide) dX3_binds_17 ?_
    refine lv_if_eq (tgt := 35) hx hb dX3_binds_18 (by decide) (fun c_2 => ?_) (fun c_2 => ?_)
    · refine lv_iconst (v := 0) hx hb dX3_binds_35 (by decide) ?_
      refine lv_istore (lv' := [(4, .int 0), (0, .ref (bv_a G 43)), (1, .int p0), (2, .int (bv_bn M p0 i)), (3, .int (nI i))]) hx hb dX3_binds_36 hl (by decide) rfl (fun ls hl => ?_)
      refine lv_iload hx hb dX3_binds_38 (lv_at hl 0 rfl) ?_
      refine lv_if_eq (tgt := 67) hx hb dX3_binds_40 (by decide) (fun c_3 => ?_) (fun c_3 => ?_)
      · refine lv_iload_n hx hb dX3_binds_67 rfl (lv_at hl 3 rfl) ?_
        refine lv_istore_n (lv' := [(2, .int (bv_bn M p0 i)), (4, .int 0), (0, .ref (bv_a G 43)), (1, .int p0), (3, .int (nI i))]) hx hb dX3_binds_68 rfl hl (by decide) rfl (fun ls hl => ?_)
        refine lv_iinc (v := nI (i + 1)) (lv' := [(3, .int (nI (i + 1))), (2, .int (bv_bn M p0 i)), (4, .int 0), (0, .ref (bv_a G 43)), (1, .int p0)]) hx hb dX3_binds_69 hl (k := 4) rfl (nI_1 _) (by decide) rfl (fun ls hl => ?_)
        refine lv_goto (tgt := 4) hx hb dX3_binds_72 (by decide) ?_
        have e_2 : bv_bn M p0 i = bv_bn M p0 (i + 1) := by rw [bv_bn_s]; first | exact (if_pos ⟨by assumption, by assumption, Or.inl (by assumption)⟩).symm | exact (if_pos ⟨by assumption, by assumption, Or.inr (by rw [et2]; assumption)⟩).symm | exact (if_neg (fun h => h.1 (by assumption))).symm | exact (if_neg (fun h => absurd h.2.1 (by assumption))).symm | exact (if_neg (fun h => h.2.2.elim (fun q => absurd q (by assumption)) (fun q => q (by rw [et2]; assumption)))).symm
        rw [e_2] at hl
        exact ih (by omega) (trivial) _ _ _ hP hS (lv_sub hl [3, 4, 1, 0] rfl)
      · exact absurd c_3 (by decide)
    · refine lv_aload_n hx hb dX3_binds_21 rfl (lv_at hl 0 rfl) ?_
      refine bv_get_f (ci := 3) (C := RX3) (T := TX3) (N := 21) hx hb hts hin3 hown hK hP (bv_c43 G _ _ _) rfl 16 (by decide) wl2 rfl rfl dX3_binds_22 ?_
      refine lv_iload_n hx hb dX3_binds_25 rfl (lv_at hl 3 rfl) ?_
      refine bv_iald hx hb hK hP 57 (bv_c57 G _ _ _) i (rfl) (by omega) (by decide) dX3_binds_26 ?_
      refine lv_iload_n hx hb dX3_binds_27 rfl (lv_at hl 1 rfl) ?_
      refine lv_icmp_ne (tgt := 35) hx hb dX3_binds_28 (by decide) (fun c_4 => ?_) (fun c_4 => ?_)
      · refine lv_iconst (v := 0) hx hb dX3_binds_35 (by decide) ?_
        refine lv_istore (lv' := [(4, .int 0), (0, .ref (bv_a G 43)), (1, .int p0), (2, .int (bv_bn M p0 i)), (3, .int (nI i))]) hx hb dX3_binds_36 hl (by decide) rfl (fun ls hl => ?_)
        refine lv_iload hx hb dX3_binds_38 (lv_at hl 0 rfl) ?_
        refine lv_if_eq (tgt := 67) hx hb dX3_binds_40 (by decide) (fun c_5 => ?_) (fun c_5 => ?_)
        · refine lv_iload_n hx hb dX3_binds_67 rfl (lv_at hl 3 rfl) ?_
          refine lv_istore_n (lv' := [(2, .int (bv_bn M p0 i)), (4, .int 0), (0, .ref (bv_a G 43)), (1, .int p0), (3, .int (nI i))]) hx hb dX3_binds_68 rfl hl (by decide) rfl (fun ls hl => ?_)
          refine lv_iinc (v := nI (i + 1)) (lv' := [(3, .int (nI (i + 1))), (2, .int (bv_bn M p0 i)), (4, .int 0), (0, .ref (bv_a G 43)), (1, .int p0)]) hx hb dX3_binds_69 hl (k := 4) rfl (nI_1 _) (by decide) rfl (fun ls hl => ?_)
          refine lv_goto (tgt := 4) hx hb dX3_binds_72 (by decide) ?_
          have e_2 : bv_bn M p0 i = bv_bn M p0 (i + 1) := by rw [bv_bn_s]; first | exact (if_pos ⟨by assumption, by assumption, Or.inl (by assumption)⟩).symm | exact (if_pos ⟨by assumption, by assumption, Or.inr (by rw [et2]; assumption)⟩).symm | exact (if_neg (fun h => h.1 (by assumption))).symm | exact (if_neg (fun h => absurd h.2.1 (by assumption))).symm | exact (if_neg (fun h => h.2.2.elim (fun q => absurd q (by assumption)) (fun q => q (by rw [et2]; assumption)))).symm
          rw [e_2] at hl
          exact ih (by omega) (trivial) _ _ _ hP hS (lv_sub hl [3, 4, 1, 0] rfl)
        · exact absurd c_5 (by decide)
      · refine lv_iconst (v := 1) hx hb dX3_binds_31 (by decide) ?_
        refine lv_goto (tgt := 36) hx hb dX3_binds_32 (by decide) ?_
        refine lv_istore (lv' := [(4, .int 1), (0, .ref (bv_a G 43)), (1, .int p0), (2, .int (bv_bn M p0 i)), (3, .int (nI i))]) hx hb dX3_binds_36 hl (by decide) rfl (fun ls hl => ?_)
        refine lv_iload hx hb dX3_binds_38 (lv_at hl 0 rfl) ?_
        refine lv_if_eq (tgt := 67) hx hb dX3_binds_40 (by decide) (fun c_6 => ?_) (fun c_6 => ?_)
        · exact absurd c_6 (by decide)
        · refine lv_iload_n hx hb dX3_binds_43 rfl (lv_at hl 3 rfl) ?_
          refine lv_iconst (v := (-1)) hx hb dX3_binds_44 (by decide) ?_
          refine lv_icmp_eq (tgt := 63) hx hb dX3_binds_45 (by decide) (fun c_7 => ?_) (fun c_7 => ?_)
          · refine lv_iload_n hx hb dX3_binds_63 rfl (lv_at hl 4 rfl) ?_
            refine lv_goto (tgt := 68) hx hb dX3_binds_64 (by decide) ?_
            refine lv_istore_n (lv' := [(2, .int (nI i)), (4, .int 1), (0, .ref (bv_a G 43)), (1, .int p0), (3, .int (nI i))]) hx hb dX3_binds_68 rfl hl (by decide) rfl (fun ls hl => ?_)
            refine lv_iinc (v := nI (i + 1)) (lv' := [(3, .int (nI (i + 1))), (2, .int (nI i)), (4, .int 1), (0, .ref (bv_a G 43)), (1, .int p0)]) hx hb dX3_binds_69 hl (k := 4) rfl (nI_1 _) (by decide) rfl (fun ls hl => ?_)
            refine lv_goto (tgt := 4) hx hb dX3_binds_72 (by decide) ?_
            have e_2 : nI i = bv_bn M p0 (i + 1) := by rw [bv_bn_s]; first | exact (if_pos ⟨by assumption, by assumption, Or.inl (by assumption)⟩).symm | exact (if_pos ⟨by assumption, by assumption, Or.inr (by rw [et2]; assumption)⟩).symm | exact (if_neg (fun h => h.1 (by assumption))).symm | exact (if_neg (fun h => absurd h.2.1 (by assumption))).symm | exact (if_neg (fun h => h.2.2.elim (fun q => absurd q (by assumption)) (fun q => q (by rw [et2]; assumption)))).symm
            rw [e_2] at hl
            exact ih (by omega) (trivial) _ _ _ hP hS (lv_sub hl [3, 4, 1, 0] rfl)
          · refine lv_aload_n hx hb dX3_binds_48 rfl (lv_at hl 1 rfl) ?_
            refine bv_get_f (ci := 3) (C := RX3) (T := TX3) (N := 21) hx hb hts hin3 hown hK hP (bv_c43 G _ _ _) rfl 17 (by decide) wl3 rfl rfl dX3_binds_49 ?_
            refine lv_iload_n hx hb dX3_binds_52 rfl (lv_at hl 4 rfl) ?_
            refine bv_iald hx hb hK hP 58 (bv_c58 G _ _ _) i (rfl) (by omega) (by decide) dX3_binds_53 ?_
            refine lv_aload_n hx hb dX3_binds_54 rfl (lv_at hl 1 rfl) ?_
            refine bv_get_f (ci := 3) (C := RX3) (T := TX3) (N := 21) hx hb hts hin3 hown hK hP (bv_c43 G _ _ _) rfl 17 (by decide) wl3 rfl rfl dX3_binds_55 ?_
            refine lv_iload_n hx hb dX3_binds_58 rfl (lv_at hl 3 rfl) ?_
            obtain ⟨t, ht, et, -, -⟩ := bv_bn_ix c_7
            have et2 : (bv_bn M p0 i).toNatClampNeg = t := by rw [et]; exact nI_clamp (by omega)
            refine bv_iald hx hb hK hP 58 (bv_c58 G _ _ _) t (et) (by omega) (by decide) dX3_binds_59 ?_
            refine lv_icmp_lt (tgt := 67) hx hb dX3_binds_60 (by decide) (fun c_8 => ?_) (fun c_8 => ?_)
            · refine lv_iload_n hx hb dX3_binds_67 rfl (lv_at hl 3 rfl) ?_
              refine lv_istore_n (lv' := [(2, .int (bv_bn M p0 i)), (4, .int 1), (0, .ref (bv_a G 43)), (1, .int p0), (3, .int (nI i))]) hx hb dX3_binds_68 rfl hl (by decide) rfl (fun ls hl => ?_)
              refine lv_iinc (v := nI (i + 1)) (lv' := [(3, .int (nI (i + 1))), (2, .int (bv_bn M p0 i)), (4, .int 1), (0, .ref (bv_a G 43)), (1, .int p0)]) hx hb dX3_binds_69 hl (k := 4) rfl (nI_1 _) (by decide) rfl (fun ls hl => ?_)
              refine lv_goto (tgt := 4) hx hb dX3_binds_72 (by decide) ?_
              have e_2 : bv_bn M p0 i = bv_bn M p0 (i + 1) := by rw [bv_bn_s]; first | exact (if_pos ⟨by assumption, by assumption, Or.inl (by assumption)⟩).symm | exact (if_pos ⟨by assumption, by assumption, Or.inr (by rw [et2]; assumption)⟩).symm | exact (if_neg (fun h => h.1 (by assumption))).symm | exact (if_neg (fun h => absurd h.2.1 (by assumption))).symm | exact (if_neg (fun h => h.2.2.elim (fun q => absurd q (by assumption)) (fun q => q (by rw [et2]; assumption)))).symm
              rw [e_2] at hl
              exact ih (by omega) (trivial) _ _ _ hP hS (lv_sub hl [3, 4, 1, 0] rfl)
            · refine lv_iload_n hx hb dX3_binds_63 rfl (lv_at hl 4 rfl) ?_
              refine lv_goto (tgt := 68) hx hb dX3_binds_64 (by decide) ?_
              refine lv_istore_n (lv' := [(2, .int (nI i)), (4, .int 1), (0, .ref (bv_a G 43)), (1, .int p0), (3, .int (nI i))]) hx hb dX3_binds_68 rfl hl (by decide) rfl (fun ls hl => ?_)
              refine lv_iinc (v := nI (i + 1)) (lv' := [(3, .int (nI (i + 1))), (2, .int (nI i)), (4, .int 1), (0, .ref (bv_a G 43)), (1, .int p0)]) hx hb dX3_binds_69 hl (k := 4) rfl (nI_1 _) (by decide) rfl (fun ls hl => ?_)
              refine lv_goto (tgt := 4) hx hb dX3_binds_72 (by decide) ?_
              have e_2 : nI i = bv_bn M p0 (i + 1) := by rw [bv_bn_s]; first | exact (if_pos ⟨by assumption, by assumption, Or.inl (by assumption)⟩).symm | exact (if_pos ⟨by assumption, by assumption, Or.inr (by rw [et2]; assumption)⟩).symm | exact (if_neg (fun h => h.1 (by assumption))).symm | exact (if_neg (fun h => absurd h.2.1 (by assumption))).symm | exact (if_neg (fun h => h.2.2.elim (fun q => absurd q (by assumption)) (fun q => q (by rw [et2]; assumption)))).symm
              rw [e_2] at hl
              exact ih (by omega) (trivial) _ _ _ hP hS (lv_sub hl [3, 4, 1, 0] rfl)
set_option maxHeartbeats 4000000 in
set_option maxRecDepth 100000 in
theorem c_X3_isHeir (l : Launch) (G : bv_G) (S M : bv_X) (z : bv_Z) (q : Nat) (d0 : Nat) (hq : q < 16) (hd0 : d0 < 16) : bv_M l yX3_isHeir wsX3_isHeir ({ frames := 0, cells := 0, slots := 0, locals := 0 }) [.ref (bv_a G 43), .int (nI q), .int (nI d0)] G S M z (bI (bv_hr M q d0)) S M z := by
  refine Met.ofW (cc := cX3_isHeir) (maxL := 3) (ret := (some .boolean)) (by decide) rfl ?_
  intro p e s m args below meth c s₁ B hml hv
  obtain ⟨rfl, hz, hP, hK, hE⟩ := hv
  have hx := B.exec
  have hb := B.bytes
  have hr := B.returns
  have hts := atoms_spec (ws := wsX3_isHeir) B.pre
  have hown : s.vm.findClass RX3 = some m.cls := findClass_of_methodNamed B.named
  have hlocks := B.notSynchronized
  have hS : va_S (bv_A G) s.heap s.heap [] := va_S.rf
  have wl0 := hts (.fieldLink RX3 13 "BoxVaultModel" "heirs" "[I") (by decide +kernel)
  have hin3 : ∀ w ∈ wsX30, w ∈ wsX3_isHeir := (fun w h => List.mem_cons_of_mem _ (List.mem_append_right _ h))
  have hl := lv_entry ([.ref (bv_a G 43), .int (nI q), .int (nI d0)]) (n := 3) (Nat.le_of_ble_eq_true rfl)
  rw [lg_entry_eq]
  generalize (lg_sl ([.ref (bv_a G 43), .int (nI q), .int (nI d0)]) ++ List.replicate (3 - (lg_sl ([.ref (bv_a G 43), .int (nI q), .int (nI d0)])).length) Slot.unset).toArray = ls at hl ⊢
  have hl : lv_has ls 3 [(0, .ref (bv_a G 43)), (1, .int (nI q)), (2, .int (nI d0))] := hl
  refine lv_aload_n hx hb dX3_isHeir_0 rfl (lv_at hl 0 rfl) ?_
  refine bv_get_f (ci := 3) (C := RX3) (T := TX3) (N := 21) hx hb hts hin3 hown hK hP (bv_c43 G _ _ _) rfl 3 (by decide) wl0 rfl rfl dX3_isHeir_1 ?_
  refine lv_iload_n hx hb dX3_isHeir_4 rfl (lv_at hl 2 rfl) ?_
  refine bv_iald hx hb hK hP 45 (bv_c45 G _ _ _) d0 (rfl) (hd0) (by decide) dX3_isHeir_5 ?_
  refine lv_iload_n hx hb dX3_isHeir_6 rfl (lv_at hl 1 rfl) ?_
  refine lv_ishr hx hb dX3_isHeir_7 ?_
  refine lv_iconst (v := 1) hx hb dX3_isHeir_8 (by decide) ?_
  refine lv_iand hx hb dX3_isHeir_9 ?_
  refine lv_iconst (v := 1) hx hb dX3_isHeir_10 (by decide) ?_
  refine lv_icmp_ne (tgt := 18) hx hb dX3_isHeir_11 (by decide) (fun c_1 => ?_) (fun c_1 => ?_)
  · refine lv_iconst (v := 0) hx hb dX3_isHeir_18 (by decide) ?_
    exact bv_zret hx hb hr hlocks (rfl) hS (Nat.le_of_ble_eq_true rfl) (Nat.le_of_ble_eq_true rfl) dX3_isHeir_19 (bI_f (by first | assumption | (intro h; contradiction))).symm hP
  · refine lv_iconst (v := 1) hx hb dX3_isHeir_14 (by decide) ?_
    refine lv_goto (tgt := 19) hx hb dX3_isHeir_15 (by decide) ?_
    exact bv_zret hx hb hr hlocks (rfl) hS (Nat.le_of_ble_eq_true rfl) (Nat.le_of_ble_eq_true rfl) dX3_isHeir_19 (bI_t (by first | assumption | (intro h; contradiction))).symm hP
set_option maxHeartbeats 4000000 in
set_option maxRecDepth 100000 in
theorem c_X3_isOrdered (l : Launch) (G : bv_G) (S M : bv_X) (z : bv_Z) (o : Nat) (j : Nat) (q : Nat) (d0 : Nat) (ho : o < 30) (hj : j < 8) (ea : M 4 o = nI j) (hd0 : d0 < 16) (ed : M 10 j = nI d0) (ed2 : bv_hd M j = d0) (hq : q < 16) : bv_M l yX3_isOrdered wsX3_isOrdered ({ frames := 1, cells := 0, slots := 0, locals := 22 }) [.ref (bv_a G 43), .int (nI o), .int (nI q)] G S M z (bI (bv_od M o j q)) S M z := by
  refine Met.ofW (cc := cX3_isOrdered) (maxL := 4) (ret := (some .boolean)) (by decide) rfl ?_
  intro p e s m args below meth c s₁ B hml hv
  obtain ⟨rfl, hz, hP, hK, hE⟩ := hv
  have hx := B.exec
  have hb := B.bytes
  have hr := B.returns
  have hts := atoms_spec (ws := wsX3_isOrdered) B.pre
  have hown : s.vm.findClass RX3 = some m.cls := findClass_of_methodNamed B.named
  have hlocks := B.notSynchronized
  have hS : va_S (bv_A G) s.heap s.heap [] := va_S.rf
  have wl0 := hts (.fieldLink RX3 23 "BoxVaultModel" "holder" "[I") (by decide +kernel)
  have wl1 := hts (.fieldLink RX3 50 "BoxVaultModel" "at" "[I") (by decide +kernel)
  have wl2 := hts (.fieldLink RX3 56 "BoxVaultModel" "kind" "[I") (by decide +kernel)
  have wl3 := hts (.fieldLink RX3 7 "BoxVaultModel" "dead" "[Z") (by decide +kernel)
  have wl4 := hts (.fieldLink RX3 59 "BoxVaultModel" "alone" "[I") (by decide +kernel)
  have hin3 : ∀ w ∈ wsX30, w ∈ wsX3_isOrdered := (fun w h => List.mem_cons_of_mem _ (List.mem_append_right _ h))
  have hl := lv_entry ([.ref (bv_a G 43), .int (nI o), .int (nI q)]) (n := 4) (Nat.le_of_ble_eq_true rfl)
  rw [lg_entry_eq]
  generalize (lg_sl ([.ref (bv_a G 43), .int (nI o), .int (nI q)]) ++ List.replicate (4 - (lg_sl ([.ref (bv_a G 43), .int (nI o), .int (nI q)])).length) Slot.unset).toArray = ls at hl ⊢
  have hl : lv_has ls 4 [(0, .ref (bv_a G 43)), (1, .int (nI o)), (2, .int (nI q))] := hl
  refine lv_aload_n hx hb dX3_isOrdered_0 rfl (lv_at hl 0 rfl) ?_
  refine bv_get_f (ci := 3) (C := RX3) (T := TX3) (N := 21) hx hb hts hin3 hown hK hP (bv_c43 G _ _ _) rfl 6 (by decide) wl0 rfl rfl dX3_isOrdered_1 ?_
  refine lv_aload_n hx hb dX3_isOrdered_4 rfl (lv_at hl 0 rfl) ?_
  refine bv_get_f (ci := 3) (C := RX3) (T := TX3) (N := 21) hx hb hts hin3 hown hK hP (bv_c43 G _ _ _) rfl 16 (by decide) wl1 rfl rfl dX3_isOrdered_5 ?_
  refine lv_iload_n hx hb dX3_isOrdered_8 rfl (lv_at hl 1 rfl) ?_
  refine bv_iald hx hb hK hP 57 (bv_c57 G _ _ _) o (rfl) (by omega) (by decide) dX3_isOrdered_9 ?_
  refine bv_eqi (y := nI j) (ea) ?_
  refine bv_iald hx hb hK hP 48 (bv_c48 G _ _ _) j (rfl) (hj) (by decide) dX3_isOrdered_10 ?_
  refine bv_eqi (y := nI d0) (ed) ?_
  refine lv_istore_n (lv' := [(3, .int (nI d0)), (0, .ref (bv_a G 43)), (1, .int (nI o)), (2, .int (nI q))]) hx hb dX3_isOrdered_11 rfl hl (by decide) rfl (fun ls hl => ?_)
  refine lv_aload_n hx hb dX3_isOrdered_12 rfl (lv_at hl 1 rfl) ?_
  refine bv_get_f (ci := 3) (C := RX3) (T := TX3) (N := 21) hx hb hts hin3 hown hK hP (bv_c43 G _ _ _) rfl 18 (by decide) wl2 rfl rfl dX3_isOrdered_13 ?_
  refine lv_iload_n hx hb dX3_isOrdered_16 rfl (lv_at hl 2 rfl) ?_
  refine bv_iald hx hb hK hP 59 (bv_c59 G _ _ _) o (rfl) (by omega) (by decide) dX3_isOrdered_17 ?_
  refine lv_iconst (v := 1) hx hb dX3_isOrdered_18 (by decide) ?_
  refine lv_icmp_ne (tgt := 40) hx hb dX3_isOrdered_19 (by decide) (fun c_1 => ?_) (fun c_1 => ?_)
  · refine lv_aload_n hx hb dX3_isOrdered_40 rfl (lv_at hl 1 rfl) ?_
    refine bv_get_f (ci := 3) (C := RX3) (T := TX3) (N := 21) hx hb hts hin3 hown hK hP (bv_c43 G _ _ _) rfl 18 (by decide) wl2 rfl rfl dX3_isOrdered_41 ?_
    refine lv_iload_n hx hb dX3_isOrdered_44 rfl (lv_at hl 2 rfl) ?_
    refine bv_iald hx hb hK hP 59 (bv_c59 G _ _ _) o (rfl) (by omega) (by decide) dX3_isOrdered_45 ?_
    refine lv_iconst (v := 2) hx hb dX3_isOrdered_46 (by decide) ?_
    refine lv_icmp_ne (tgt := 72) hx hb dX3_isOrdered_47 (by decide) (fun c_2 => ?_) (fun c_2 => ?_)
    · refine lv_iconst (v := 0) hx hb dX3_isOrdered_72 (by decide) ?_
      exact bv_zret hx hb hr hlocks (rfl) hS (Nat.le_of_ble_eq_true rfl) (Nat.le_of_ble_eq_true rfl) dX3_isOrdered_73 (bI_f (by simp [bv_od, c_1, c_2, ed2] <;> assumption)).symm hP
    · refine lv_aload_n hx hb dX3_isOrdered_50 rfl (lv_at hl 1 rfl) ?_
      refine bv_get_f (ci := 3) (C := RX3) (T := TX3) (N := 21) hx hb hts hin3 hown hK hP (bv_c43 G _ _ _) rfl 2 (by decide) wl3 rfl rfl dX3_isOrdered_51 ?_
      refine lv_iload_n hx hb dX3_isOrdered_54 rfl (lv_at hl 0 rfl) ?_
      refine bv_zald hx hb hK hP 44 (bv_c44 G _ _ _) d0 (rfl) (hd0) (by decide) dX3_isOrdered_55 ?_
      refine lv_if_eq (tgt := 72) hx hb dX3_isOrdered_56 (by decide) (fun c_3 => ?_) (fun c_3 => ?_)
      · refine lv_iconst (v := 0) hx hb dX3_isOrdered_72 (by decide) ?_
        exact bv_zret hx hb hr hlocks (rfl) hS (Nat.le_of_ble_eq_true rfl) (Nat.le_of_ble_eq_true rfl) dX3_isOrdered_73 (bI_f (by simp [bv_od, c_1, c_2, c_3, ed2] <;> assumption)).symm hP
      · refine lv_aload_n hx hb dX3_isOrdered_59 rfl (lv_at hl 1 rfl) ?_
        refine lv_iload_n hx hb dX3_isOrdered_60 rfl (lv_at hl 3 rfl) ?_
        refine lv_iload_n hx hb dX3_isOrdered_61 rfl (lv_at hl 0 rfl) ?_
        refine bv_ci (va_runV (As := [.int (nI q), .int (nI d0)]) (rest := []) ⟨hx, hb, hml, hown, hts⟩ (c_X3_isHeir l G S M z q d0 (by omega) (by omega)) (cwV 2 hts gX3_isOrdered_X3_isHeir rfl rfl rfl (by decide +kernel) ⟨Nat.le_of_ble_eq_true rfl, Nat.le_of_ble_eq_true rfl⟩) (bv_preV hz hP hK hE hS (ci := 3) (bv_c43 G _ _ _) rfl rfl) rfl rfl hl.1 rfl (lv_room (Nat.le_of_ble_eq_true rfl)) dX3_isOrdered_62 ⟨Nat.le_of_ble_eq_true rfl, Nat.le_of_ble_eq_true rfl⟩) hS (fun H locs hP hS => ?_)
        refine bv_ifeqB (tgt := 72) hx hb dX3_isOrdered_65 (by decide) (fun c_4 => ?_) (fun c_4 => ?_)
        · refine lv_iconst (v := 0) hx hb dX3_isOrdered_72 (by decide) ?_
          exact bv_zret hx hb hr hlocks (rfl) hS (Nat.le_of_ble_eq_true rfl) (Nat.le_of_ble_eq_true rfl) dX3_isOrdered_73 (bI_f (by simp [bv_od, c_1, c_2, c_3, c_4, ed2] <;> assumption)).symm hP
        · refine lv_iconst (v := 1) hx hb dX3_isOrdered_68 (by decide) ?_
          refine lv_goto (tgt := 73) hx hb dX3_isOrdered_69 (by decide) ?_
          exact bv_zret hx hb hr hlocks (rfl) hS (Nat.le_of_ble_eq_true rfl) (Nat.le_of_ble_eq_true rfl) dX3_isOrdered_73 (bI_t (by simp [bv_od, c_1, c_2, c_3, c_4, ed2] <;> assumption)).symm hP
  · refine lv_aload_n hx hb dX3_isOrdered_22 rfl (lv_at hl 1 rfl) ?_
    refine bv_get_f (ci := 3) (C := RX3) (T := TX3) (N := 21) hx hb hts hin3 hown hK hP (bv_c43 G _ _ _) rfl 19 (by decide) wl4 rfl rfl dX3_isOrdered_23 ?_
    refine lv_iload_n hx hb dX3_isOrdered_26 rfl (lv_at hl 2 rfl) ?_
    refine bv_iald hx hb hK hP 60 (bv_c60 G _ _ _) o (rfl) (by omega) (by decide) dX3_isOrdered_27 ?_
    refine lv_iload_n hx hb dX3_isOrdered_28 rfl (lv_at hl 3 rfl) ?_
    refine lv_icmp_ne (tgt := 36) hx hb dX3_isOrdered_29 (by decide) (fun c_5 => ?_) (fun c_5 => ?_)
    · have c_f : ¬ nI q = M 7 o := fun h => c_5 h.symm
      refine lv_iconst (v := 0) hx hb dX3_isOrdered_36 (by decide) ?_
      refine lv_goto (tgt := 73) hx hb dX3_isOrdered_37 (by decide) ?_
      exact bv_zret hx hb hr hlocks (rfl) hS (Nat.le_of_ble_eq_true rfl) (Nat.le_of_ble_eq_true rfl) dX3_isOrdered_73 (bI_f (by simp [bv_od, c_1, c_5, c_f, ed2] <;> assumption)).symm hP
    · refine lv_iconst (v := 1) hx hb dX3_isOrdered_32 (by decide) ?_
      refine lv_goto (tgt := 73) hx hb dX3_isOrdered_33 (by decide) ?_
      exact bv_zret hx hb hr hlocks (rfl) hS (Nat.le_of_ble_eq_true rfl) (Nat.le_of_ble_eq_true rfl) dX3_isOrdered_73 (bI_t (by simp [bv_od, c_1, c_5, ed2] <;> assumption)).symm hP
set_option maxHeartbeats 4000000 in
set_option maxRecDepth 100000 in
theorem c_X3_isProxy (l : Launch) (G : bv_G) (S M : bv_X) (z : bv_Z) (j : Nat) (q : Nat) (c5 : Nat) (hj : j < 8) (hc5 : c5 ≤ 5) (ec5 : M 15 j = nI c5) : bv_M l yX3_isProxy wsX3_isProxy ({ frames := 1, cells := 0, slots := 0, locals := 22 }) [.ref (bv_a G 43), .int (nI j), .int (nI q)] G S M z (bI (bv_prx M j q = true)) S M z := by
  refine Met.ofW (cc := cX3_isProxy) (maxL := 5) (ret := (some .boolean)) (by decide) rfl ?_
  intro p e s m args below meth c s₁ B hml hv
  obtain ⟨rfl, hz, hP, hK, hE⟩ := hv
  have hx := B.exec
  have hb := B.bytes
  have hr := B.returns
  have hts := atoms_spec (ws := wsX3_isProxy) B.pre
  have hown : s.vm.findClass RX3 = some m.cls := findClass_of_methodNamed B.named
  have hlocks := B.notSynchronized
  have hS : va_S (bv_A G) s.heap s.heap [] := va_S.rf
  have wl0 := hts (.fieldLink RX3 38 "BoxVaultModel" "proxies" "[I") (by decide +kernel)
  have wl1 := hts (.fieldLink RX3 41 "BoxVaultModel" "proxy" "[I") (by decide +kernel)
  have wl2 := hts (.fieldLink RX3 73 "BoxVaultModel" "now" "I") (by decide +kernel)
  have wl3 := hts (.fieldLink RX3 44 "BoxVaultModel" "from" "[I") (by decide +kernel)
  have wl4 := hts (.fieldLink RX3 47 "BoxVaultModel" "to" "[I") (by decide +kernel)
  have hin3 : ∀ w ∈ wsX30, w ∈ wsX3_isProxy := (fun w h => List.mem_cons_of_mem _ (List.mem_append_right _ h))
  have hl := lv_entry ([.ref (bv_a G 43), .int (nI j), .int (nI q)]) (n := 5) (Nat.le_of_ble_eq_true rfl)
  rw [lg_entry_eq]
  generalize (lg_sl ([.ref (bv_a G 43), .int (nI j), .int (nI q)]) ++ List.replicate (5 - (lg_sl ([.ref (bv_a G 43), .int (nI j), .int (nI q)])).length) Slot.unset).toArray = ls at hl ⊢
  have hl : lv_has ls 5 [(0, .ref (bv_a G 43)), (1, .int (nI j)), (2, .int (nI q))] := hl
  refine lv_iconst (v := 0) hx hb dX3_isProxy_0 (by decide) ?_
  refine lv_istore_n (lv' := [(3, .int 0), (0, .ref (bv_a G 43)), (1, .int (nI j)), (2, .int (nI q))]) hx hb dX3_isProxy_1 rfl hl (by decide) rfl (fun ls hl => ?_)
  refine lv_iconst (v := 5) hx hb dX3_isProxy_2 (by decide) ?_
  refine lv_iload_n hx hb dX3_isProxy_3 rfl (lv_at hl 2 rfl) ?_
  refine lv_imul hx hb dX3_isProxy_4 ?_
  refine bv_eqi (y := nI (5 * j)) (pk_mul 5 j) ?_
  refine lv_istore (lv' := [(4, .int (nI (5 * j))), (3, .int 0), (0, .ref (bv_a G 43)), (1, .int (nI j)), (2, .int (nI q))]) hx hb dX3_isProxy_5 hl (by decide) rfl (fun ls hl => ?_)
  refine bv_loop (G := G) (z := z) (nL := 5) (head := 7) c5 (fun i => S) (fun i => M) (fun i => [(0, .ref (bv_a G 43)), (1, .int (nI j)), (2, .int (nI q)), (3, .int (bI (bv_px (fun i => M 16 (5 * j + i)) (fun i => M 17 (5 * j + i)) (fun i => M 18 (5 * j + i)) (nI q) (M 0 0) i = true))), (4, .int (nI (5 * j + i)))]) (fun i => True) (fun i hi hv ih H locs ls hP hS hl => ?_) (trivial) _ _ _ hP hS (lv_sub hl [2, 3, 4, 1, 0] rfl)
  have hP : bv_H G S M z H := hP
  have hl : lv_has ls 5 [(0, .ref (bv_a G 43)), (1, .int (nI j)), (2, .int (nI q)), (3, .int (bI (bv_px (fun i => M 16 (5 * j + i)) (fun i => M 17 (5 * j + i)) (fun i => M 18 (5 * j + i)) (nI q) (M 0 0) i = true))), (4, .int (nI (5 * j + i)))] := hl
  refine lv_iload hx hb dX3_isProxy_7 (lv_at hl 4 rfl) ?_
  refine lv_iconst (v := 5) hx hb dX3_isProxy_9 (by decide) ?_
  refine lv_iload_n hx hb dX3_isProxy_10 rfl (lv_at hl 1 rfl) ?_
  refine lv_imul hx hb dX3_isProxy_11 ?_
  refine bv_eqi (y := nI (5 * j)) (pk_mul 5 j) ?_
  refine lv_aload_n hx hb dX3_isProxy_12 rfl (lv_at hl 0 rfl) ?_
  refine bv_get_f (ci := 3) (C := RX3) (T := TX3) (N := 21) hx hb hts hin3 hown hK hP (bv_c43 G _ _ _) rfl 11 (by decide) wl0 rfl rfl dX3_isProxy_13 ?_
  refine lv_iload_n hx hb dX3_isProxy_16 rfl (lv_at hl 1 rfl) ?_
  refine bv_iald hx hb hK hP 53 (bv_c53 G _ _ _) j (rfl) (hj) (by decide) dX3_isProxy_17 ?_
  refine bv_eqi (y := nI c5) (ec5) ?_
  refine lv_iadd hx hb dX3_isProxy_18 ?_
  refine bv_eqi (y := nI (5 * j + c5)) (nI_add _ _) ?_
  refine lv_icmp_ge (tgt := 73) hx hb dX3_isProxy_19 (by decide) (fun c_1 => ?_) (fun c_1 => ?_)
  · refine lv_iload_n hx hb dX3_isProxy_73 rfl (lv_at hl 3 rfl) ?_
    exact bv_zret hx hb hr hlocks (bI_nz) hS (Nat.le_of_ble_eq_true rfl) (Nat.le_of_ble_eq_true rfl) dX3_isProxy_74 (by exact bv_prx_f hj hc5 ec5 hi c_1) hP
  · have hlt : i < c5 := by have := bv_lt_of (x := nI (5 * j + c5)) (c := 5 * j + c5) (i := 5 * j + i) rfl (by omega) (by omega) c_1; omega
    refine lv_iload_n hx hb dX3_isProxy_22 rfl (lv_at hl 3 rfl) ?_
    refine bv_ifneB (tgt := 61) hx hb dX3_isProxy_23 (by decide) (fun c_2 => ?_) (fun c_2 => ?_)
    · refine lv_iconst (v := 1) hx hb dX3_isProxy_61 (by decide) ?_
      refine lv_goto (tgt := 66) hx hb dX3_isProxy_62 (by decide) ?_
      refine lv_istore_n (lv' := [(3, .int 1), (0, .ref (bv_a G 43)), (1, .int (nI j)), (2, .int (nI q)), (4, .int (nI (5 * j + i)))]) hx hb dX3_isProxy_66 rfl hl (by decide) rfl (fun ls hl => ?_)
      refine lv_iinc (v := nI ((5 * j + i) + 1)) (lv' := [(4, .int (nI ((5 * j + i) + 1))), (3, .int 1), (0, .ref (bv_a G 43)), (1, .int (nI j)), (2, .int (nI q))]) hx hb dX3_isProxy_67 hl (k := 4) rfl (nI_1 _) (by decide) rfl (fun ls hl => ?_)
      refine lv_goto (tgt := 7) hx hb dX3_isProxy_70 (by decide) ?_
      have e_3 : 1 = bI (bv_px (fun i => M 16 (5 * j + i)) (fun i => M 17 (5 * j + i)) (fun i => M 18 (5 * j + i)) (nI q) (M 0 0) (i + 1) = true) := by first | exact (bI_t (by rw [bv_px_s, c_2]; rfl)).symm | exact (bI_t (by rw [bv_px_s, Bool.or_eq_true]; exact Or.inr (decide_eq_true ⟨by assumption, by assumption⟩))).symm | exact (bI_f (by rw [bv_px_s, Bool.or_eq_true]; rintro (h | h); first | exact absurd h (by assumption) ; first | exact absurd (of_decide_eq_true h).1 (by assumption) | exact absurd (of_decide_eq_true h).2 (by assumption))).symm
      rw [e_3] at hl
      exact ih (by omega) (trivial) _ _ _ hP hS (lv_sub hl [2, 3, 4, 1, 0] rfl)
    · refine lv_aload_n hx hb dX3_isProxy_26 rfl (lv_at hl 0 rfl) ?_
      refine bv_get_f (ci := 3) (C := RX3) (T := TX3) (N := 21) hx hb hts hin3 hown hK hP (bv_c43 G _ _ _) rfl 12 (by decide) wl1 rfl rfl dX3_isProxy_27 ?_
      refine lv_iload hx hb dX3_isProxy_30 (lv_at hl 4 rfl) ?_
      refine bv_iald hx hb hK hP 54 (bv_c54 G _ _ _) (5 * j + i) (rfl) (by omega) (by decide) dX3_isProxy_32 ?_
      refine lv_iload_n hx hb dX3_isProxy_33 rfl (lv_at hl 2 rfl) ?_
      refine lv_icmp_ne (tgt := 65) hx hb dX3_isProxy_34 (by decide) (fun c_3 => ?_) (fun c_3 => ?_)
      · refine lv_iconst (v := 0) hx hb dX3_isProxy_65 (by decide) ?_
        refine lv_istore_n (lv' := [(3, .int 0), (0, .ref (bv_a G 43)), (1, .int (nI j)), (2, .int (nI q)), (4, .int (nI (5 * j + i)))]) hx hb dX3_isProxy_66 rfl hl (by decide) rfl (fun ls hl => ?_)
        refine lv_iinc (v := nI ((5 * j + i) + 1)) (lv' := [(4, .int (nI ((5 * j + i) + 1))), (3, .int 0), (0, .ref (bv_a G 43)), (1, .int (nI j)), (2, .int (nI q))]) hx hb dX3_isProxy_67 hl (k := 4) rfl (nI_1 _) (by decide) rfl (fun ls hl => ?_)
        refine lv_goto (tgt := 7) hx hb dX3_isProxy_70 (by decide) ?_
        have e_3 : 0 = bI (bv_px (fun i => M 16 (5 * j + i)) (fun i => M 17 (5 * j + i)) (fun i => M 18 (5 * j + i)) (nI q) (M 0 0) (i + 1) = true) := by first | exact (bI_t (by rw [bv_px_s, c_2]; rfl)).symm | exact (bI_t (by rw [bv_px_s, Bool.or_eq_true]; exact Or.inr (decide_eq_true ⟨by assumption, by assumption⟩))).symm | exact (bI_f (by rw [bv_px_s, Bool.or_eq_true]; rintro (h | h); first | exact absurd h (by assumption) ; first | exact absurd (of_decide_eq_true h).1 (by assumption) | exact absurd (of_decide_eq_true h).2 (by assumption))).symm
        rw [e_3] at hl
        exact ih (by omega) (trivial) _ _ _ hP hS (lv_sub hl [2, 3, 4, 1, 0] rfl)
      · refine lv_aload_n hx hb dX3_isProxy_37 rfl (lv_at hl 0 rfl) ?_
        refine bv_get_f (ci := 3) (C := RX3) (T := TX3) (N := 21) hx hb hts hin3 hown hK hP (bv_c43 G _ _ _) rfl 1 (by decide) wl2 rfl rfl dX3_isProxy_38 ?_
        refine lv_aload_n hx hb dX3_isProxy_41 rfl (lv_at hl 0 rfl) ?_
        refine bv_get_f (ci := 3) (C := RX3) (T := TX3) (N := 21) hx hb hts hin3 hown hK hP (bv_c43 G _ _ _) rfl 13 (by decide) wl3 rfl rfl dX3_isProxy_42 ?_
        refine lv_iload hx hb dX3_isProxy_45 (lv_at hl 4 rfl) ?_
        refine bv_iald hx hb hK hP 55 (bv_c55 G _ _ _) (5 * j + i) (rfl) (by omega) (by decide) dX3_isProxy_47 ?_
        refine lv_aload_n hx hb dX3_isProxy_48 rfl (lv_at hl 0 rfl) ?_
        refine bv_get_f (ci := 3) (C := RX3) (T := TX3) (N := 21) hx hb hts hin3 hown hK hP (bv_c43 G _ _ _) rfl 14 (by decide) wl4 rfl rfl dX3_isProxy_49 ?_
        refine lv_iload hx hb dX3_isProxy_52 (lv_at hl 4 rfl) ?_
        refine bv_iald hx hb hK hP 56 (bv_c56 G _ _ _) (5 * j + i) (rfl) (by omega) (by decide) dX3_isProxy_54 ?_
        refine bv_ci (va_runS (As := [.int (M 0 0), .int (M 17 (5 * j + i)), .int (M 18 (5 * j + i))]) (rest := []) ⟨hx, hb, hml, hown, hts⟩ (c_X3_in l G S M z (M 0 0) (M 17 (5 * j + i)) (M 18 (5 * j + i)) ) (va_cwS 3 hts gX3_isProxy_X3_in rfl rfl rfl (by decide +kernel) ⟨Nat.le_of_ble_eq_true rfl, Nat.le_of_ble_eq_true rfl⟩) (bv_preS hz hP hK hE hS) rfl rfl hl.1 rfl (lv_room (Nat.le_of_ble_eq_true rfl)) dX3_isProxy_55 ⟨Nat.le_of_ble_eq_true rfl, Nat.le_of_ble_eq_true rfl⟩) hS (fun H locs hP hS => ?_)
        refine bv_ifeqB (tgt := 65) hx hb dX3_isProxy_58 (by decide) (fun c_4 => ?_) (fun c_4 => ?_)
        · refine lv_iconst (v := 0) hx hb dX3_isProxy_65 (by decide) ?_
          refine lv_istore_n (lv' := [(3, .int 0), (0, .ref (bv_a G 43)), (1, .int (nI j)), (2, .int (nI q)), (4, .int (nI (5 * j + i)))]) hx hb dX3_isProxy_66 rfl hl (by decide) rfl (fun ls hl => ?_)
          refine lv_iinc (v := nI ((5 * j + i) + 1)) (lv' := [(4, .int (nI ((5 * j + i) + 1))), (3, .int 0), (0, .ref (bv_a G 43)), (1, .int (nI j)), (2, .int (nI q))]) hx hb dX3_isProxy_67 hl (k := 4) rfl (nI_1 _) (by decide) rfl (fun ls hl => ?_)
          refine lv_goto (tgt := 7) hx hb dX3_isProxy_70 (by decide) ?_
          have e_3 : 0 = bI (bv_px (fun i => M 16 (5 * j + i)) (fun i => M 17 (5 * j + i)) (fun i => M 18 (5 * j + i)) (nI q) (M 0 0) (i + 1) = true) := by first | exact (bI_t (by rw [bv_px_s, c_2]; rfl)).symm | exact (bI_t (by rw [bv_px_s, Bool.or_eq_true]; exact Or.inr (decide_eq_true ⟨by assumption, by assumption⟩))).symm | exact (bI_f (by rw [bv_px_s, Bool.or_eq_true]; rintro (h | h); first | exact absurd h (by assumption) ; first | exact absurd (of_decide_eq_true h).1 (by assumption) | exact absurd (of_decide_eq_true h).2 (by assumption))).symm
          rw [e_3] at hl
          exact ih (by omega) (trivial) _ _ _ hP hS (lv_sub hl [2, 3, 4, 1, 0] rfl)
        · refine lv_iconst (v := 1) hx hb dX3_isProxy_61 (by decide) ?_
          refine lv_goto (tgt := 66) hx hb dX3_isProxy_62 (by decide) ?_
          refine lv_istore_n (lv' := [(3, .int 1), (0, .ref (bv_a G 43)), (1, .int (nI j)), (2, .int (nI q)), (4, .int (nI (5 * j + i)))]) hx hb dX3_isProxy_66 rfl hl (by decide) rfl (fun ls hl => ?_)
          refine lv_iinc (v := nI ((5 * j + i) + 1)) (lv' := [(4, .int (nI ((5 * j + i) + 1))), (3, .int 1), (0, .ref (bv_a G 43)), (1, .int (nI j)), (2, .int (nI q))]) hx hb dX3_isProxy_67 hl (k := 4) rfl (nI_1 _) (by decide) rfl (fun ls hl => ?_)
          refine lv_goto (tgt := 7) hx hb dX3_isProxy_70 (by decide) ?_
          have e_3 : 1 = bI (bv_px (fun i => M 16 (5 * j + i)) (fun i => M 17 (5 * j + i)) (fun i => M 18 (5 * j + i)) (nI q) (M 0 0) (i + 1) = true) := by first | exact (bI_t (by rw [bv_px_s, c_2]; rfl)).symm | exact (bI_t (by rw [bv_px_s, Bool.or_eq_true]; exact Or.inr (decide_eq_true ⟨by assumption, by assumption⟩))).symm | exact (bI_f (by rw [bv_px_s, Bool.or_eq_true]; rintro (h | h); first | exact absurd h (by assumption) ; first | exact absurd (of_decide_eq_true h).1 (by assumption) | exact absurd (of_decide_eq_true h).2 (by assumption))).symm
          rw [e_3] at hl
          exact ih (by omega) (trivial) _ _ _ hP hS (lv_sub hl [2, 3, 4, 1, 0] rfl)
set_option maxHeartbeats 4000000 in
set_option maxRecDepth 100000 in
theorem c_X3_right (l : Launch) (G : bv_G) (S M : bv_X) (z : bv_Z) (n : Nat) (j : Nat) (q : Nat) (hn : n ≤ 1000) (hI : bv_I n M) (hj : j < 8) (hq : q < 16) : bv_M l yX3_right wsX3_right ({ frames := 2, cells := 0, slots := 0, locals := 46 }) [.ref (bv_a G 43), .int (nI j), .int (nI q)] G S M z (bv_rt M j q) S M z := by
  refine Met.ofW (cc := cX3_right) (maxL := 4) (ret := (some .int)) (by decide) rfl ?_
  intro p e s m args below meth c s₁ B hml hv
  obtain ⟨rfl, hz, hP, hK, hE⟩ := hv
  have hx := B.exec
  have hb := B.bytes
  have hr := B.returns
  have hts := atoms_spec (ws := wsX3_right) B.pre
  have hown : s.vm.findClass RX3 = some m.cls := findClass_of_methodNamed B.named
  have hlocks := B.notSynchronized
  have hS : va_S (bv_A G) s.heap s.heap [] := va_S.rf
  have wl0 := hts (.fieldLink RX3 7 "BoxVaultModel" "dead" "[Z") (by decide +kernel)
  have wl1 := hts (.fieldLink RX3 23 "BoxVaultModel" "holder" "[I") (by decide +kernel)
  have wl2 := hts (.fieldLink RX3 32 "BoxVaultModel" "looked" "[Z") (by decide +kernel)
  have hin3 : ∀ w ∈ wsX30, w ∈ wsX3_right := (fun w h => List.mem_cons_of_mem _ (List.mem_append_right _ h))
  have hl := lv_entry ([.ref (bv_a G 43), .int (nI j), .int (nI q)]) (n := 4) (Nat.le_of_ble_eq_true rfl)
  rw [lg_entry_eq]
  generalize (lg_sl ([.ref (bv_a G 43), .int (nI j), .int (nI q)]) ++ List.replicate (4 - (lg_sl ([.ref (bv_a G 43), .int (nI j), .int (nI q)])).length) Slot.unset).toArray = ls at hl ⊢
  have hl : lv_has ls 4 [(0, .ref (bv_a G 43)), (1, .int (nI j)), (2, .int (nI q))] := hl
  obtain ⟨cn, hc, ec⟩ := bv_I_cnt hI
  obtain ⟨d0, hd0, ed, ed2⟩ := bv_I_hd hI hj
  obtain ⟨c5, hc5, ec5⟩ := bv_I_px hI hj
  refine lv_aload_n hx hb dX3_right_0 rfl (lv_at hl 0 rfl) ?_
  refine lv_iload_n hx hb dX3_right_1 rfl (lv_at hl 1 rfl) ?_
  refine bv_ci (va_runV (As := [.int (nI j)]) (rest := []) ⟨hx, hb, hml, hown, hts⟩ (c_X3_isRented l G S M z j (by omega)) (cwV 1 hts gX3_right_X3_isRented rfl rfl rfl (by decide +kernel) ⟨Nat.le_of_ble_eq_true rfl, Nat.le_of_ble_eq_true rfl⟩) (bv_preV hz hP hK hE hS (ci := 3) (bv_c43 G _ _ _) rfl rfl) rfl rfl hl.1 rfl (lv_room (Nat.le_of_ble_eq_true rfl)) dX3_right_2 ⟨Nat.le_of_ble_eq_true rfl, Nat.le_of_ble_eq_true rfl⟩) hS (fun H locs hP hS => ?_)
  refine bv_ifeqB (tgt := 17) hx hb dX3_right_5 (by decide) (fun c_1 => ?_) (fun c_1 => ?_)
  · refine lv_iconst (v := 3) hx hb dX3_right_17 (by decide) ?_
    exact bv_iret hx hb hr hlocks hS (Nat.le_of_ble_eq_true rfl) (Nat.le_of_ble_eq_true rfl) dX3_right_18 (by simp [bv_rt, c_1, ed2]) hP
  · refine lv_aload_n hx hb dX3_right_8 rfl (lv_at hl 0 rfl) ?_
    refine bv_get_f (ci := 3) (C := RX3) (T := TX3) (N := 21) hx hb hts hin3 hown hK hP (bv_c43 G _ _ _) rfl 2 (by decide) wl0 rfl rfl dX3_right_9 ?_
    refine lv_iload_n hx hb dX3_right_12 rfl (lv_at hl 2 rfl) ?_
    refine bv_zald hx hb hK hP 44 (bv_c44 G _ _ _) q (rfl) (hq) (by decide) dX3_right_13 ?_
    refine lv_if_eq (tgt := 19) hx hb dX3_right_14 (by decide) (fun c_2 => ?_) (fun c_2 => ?_)
    · refine lv_aload_n hx hb dX3_right_19 rfl (lv_at hl 0 rfl) ?_
      refine lv_iload_n hx hb dX3_right_20 rfl (lv_at hl 1 rfl) ?_
      refine bv_ci (va_runV (As := [.int (nI j)]) (rest := []) ⟨hx, hb, hml, hown, hts⟩ (c_X3_binds l G S M z (nI j) cn (hc) (ec)) (cwV 1 hts gX3_right_X3_binds rfl rfl rfl (by decide +kernel) ⟨Nat.le_of_ble_eq_true rfl, Nat.le_of_ble_eq_true rfl⟩) (bv_preV hz hP hK hE hS (ci := 3) (bv_c43 G _ _ _) rfl rfl) rfl rfl hl.1 rfl (lv_room (Nat.le_of_ble_eq_true rfl)) dX3_right_21 ⟨Nat.le_of_ble_eq_true rfl, Nat.le_of_ble_eq_true rfl⟩) hS (fun H locs hP hS => ?_)
      refine bv_eqi (y := bv_bd M (nI j)) (bv_bd_c ec hc) ?_
      refine lv_istore_n (lv' := [(3, .int (bv_bd M (nI j))), (0, .ref (bv_a G 43)), (1, .int (nI j)), (2, .int (nI q))]) hx hb dX3_right_24 rfl hl (by decide) rfl (fun ls hl => ?_)
      refine lv_iload_n hx hb dX3_right_25 rfl (lv_at hl 0 rfl) ?_
      refine lv_iconst (v := (-1)) hx hb dX3_right_26 (by decide) ?_
      refine lv_icmp_eq (tgt := 45) hx hb dX3_right_27 (by decide) (fun c_3 => ?_) (fun c_3 => ?_)
      · refine lv_aload_n hx hb dX3_right_45 rfl (lv_at hl 1 rfl) ?_
        refine bv_get_f (ci := 3) (C := RX3) (T := TX3) (N := 21) hx hb hts hin3 hown hK hP (bv_c43 G _ _ _) rfl 2 (by decide) wl0 rfl rfl dX3_right_46 ?_
        refine lv_aload_n hx hb dX3_right_49 rfl (lv_at hl 1 rfl) ?_
        refine bv_get_f (ci := 3) (C := RX3) (T := TX3) (N := 21) hx hb hts hin3 hown hK hP (bv_c43 G _ _ _) rfl 6 (by decide) wl1 rfl rfl dX3_right_50 ?_
        refine lv_iload_n hx hb dX3_right_53 rfl (lv_at hl 2 rfl) ?_
        refine bv_iald hx hb hK hP 48 (bv_c48 G _ _ _) j (rfl) (hj) (by decide) dX3_right_54 ?_
        refine bv_eqi (y := nI d0) (ed) ?_
        refine bv_zald hx hb hK hP 44 (bv_c44 G _ _ _) d0 (rfl) (hd0) (by decide) dX3_right_55 ?_
        refine lv_if_eq (tgt := 88) hx hb dX3_right_56 (by decide) (fun c_4 => ?_) (fun c_4 => ?_)
        · refine lv_aload_n hx hb dX3_right_88 rfl (lv_at hl 1 rfl) ?_
          refine lv_iload_n hx hb dX3_right_89 rfl (lv_at hl 2 rfl) ?_
          refine bv_ci (va_runV (As := [.int (nI j)]) (rest := []) ⟨hx, hb, hml, hown, hts⟩ (c_X3_noticesOf l G S M z j (by omega)) (cwV 1 hts gX3_right_X3_noticesOf rfl rfl rfl (by decide +kernel) ⟨Nat.le_of_ble_eq_true rfl, Nat.le_of_ble_eq_true rfl⟩) (bv_preV hz hP hK hE hS (ci := 3) (bv_c43 G _ _ _) rfl rfl) rfl rfl hl.1 rfl (lv_room (Nat.le_of_ble_eq_true rfl)) dX3_right_90 ⟨Nat.le_of_ble_eq_true rfl, Nat.le_of_ble_eq_true rfl⟩) hS (fun H locs hP hS => ?_)
          refine lv_if_ne (tgt := 119) hx hb dX3_right_93 (by decide) (fun c_5 => ?_) (fun c_5 => ?_)
          · refine lv_iconst (v := 3) hx hb dX3_right_119 (by decide) ?_
            exact bv_iret hx hb hr hlocks hS (Nat.le_of_ble_eq_true rfl) (Nat.le_of_ble_eq_true rfl) dX3_right_120 (by simp [bv_rt, c_1, c_2, c_3, c_4, c_5, ed2]) hP
          · refine lv_iload_n hx hb dX3_right_96 rfl (lv_at hl 3 rfl) ?_
            refine lv_aload_n hx hb dX3_right_97 rfl (lv_at hl 1 rfl) ?_
            refine bv_get_f (ci := 3) (C := RX3) (T := TX3) (N := 21) hx hb hts hin3 hown hK hP (bv_c43 G _ _ _) rfl 6 (by decide) wl1 rfl rfl dX3_right_98 ?_
            refine lv_iload_n hx hb dX3_right_101 rfl (lv_at hl 2 rfl) ?_
            refine bv_iald hx hb hK hP 48 (bv_c48 G _ _ _) j (rfl) (hj) (by decide) dX3_right_102 ?_
            refine lv_icmp_eq (tgt := 115) hx hb dX3_right_103 (by decide) (fun c_6 => ?_) (fun c_6 => ?_)
            · refine lv_iconst (v := 0) hx hb dX3_right_115 (by decide) ?_
              refine lv_goto (tgt := 120) hx hb dX3_right_116 (by decide) ?_
              exact bv_iret hx hb hr hlocks hS (Nat.le_of_ble_eq_true rfl) (Nat.le_of_ble_eq_true rfl) dX3_right_120 (by simp [bv_rt, c_1, c_2, c_3, c_4, c_5, c_6, ed2]) hP
            · refine lv_aload_n hx hb dX3_right_106 rfl (lv_at hl 1 rfl) ?_
              refine lv_iload_n hx hb dX3_right_107 rfl (lv_at hl 2 rfl) ?_
              refine lv_iload_n hx hb dX3_right_108 rfl (lv_at hl 3 rfl) ?_
              refine bv_ci (va_runV (As := [.int (nI j), .int (nI q)]) (rest := []) ⟨hx, hb, hml, hown, hts⟩ (c_X3_isProxy l G S M z j q c5 (by omega) (hc5) (ec5)) (cwV 2 hts gX3_right_X3_isProxy rfl rfl rfl (by decide +kernel) ⟨Nat.le_of_ble_eq_true rfl, Nat.le_of_ble_eq_true rfl⟩) (bv_preV hz hP hK hE hS (ci := 3) (bv_c43 G _ _ _) rfl rfl) rfl rfl hl.1 rfl (lv_room (Nat.le_of_ble_eq_true rfl)) dX3_right_109 ⟨Nat.le_of_ble_eq_true rfl, Nat.le_of_ble_eq_true rfl⟩) hS (fun H locs hP hS => ?_)
              refine bv_ifeqB (tgt := 119) hx hb dX3_right_112 (by decide) (fun c_7 => ?_) (fun c_7 => ?_)
              · refine lv_iconst (v := 3) hx hb dX3_right_119 (by decide) ?_
                exact bv_iret hx hb hr hlocks hS (Nat.le_of_ble_eq_true rfl) (Nat.le_of_ble_eq_true rfl) dX3_right_120 (by simp [bv_rt, c_1, c_2, c_3, c_4, c_5, c_6, c_7, ed2]) hP
              · refine lv_iconst (v := 0) hx hb dX3_right_115 (by decide) ?_
                refine lv_goto (tgt := 120) hx hb dX3_right_116 (by decide) ?_
                exact bv_iret hx hb hr hlocks hS (Nat.le_of_ble_eq_true rfl) (Nat.le_of_ble_eq_true rfl) dX3_right_120 (by simp [bv_rt, c_1, c_2, c_3, c_4, c_5, c_6, c_7, ed2]) hP
        · refine lv_aload_n hx hb dX3_right_59 rfl (lv_at hl 1 rfl) ?_
          refine lv_iload_n hx hb dX3_right_60 rfl (lv_at hl 3 rfl) ?_
          refine lv_aload_n hx hb dX3_right_61 rfl (lv_at hl 1 rfl) ?_
          refine bv_get_f (ci := 3) (C := RX3) (T := TX3) (N := 21) hx hb hts hin3 hown hK hP (bv_c43 G _ _ _) rfl 6 (by decide) wl1 rfl rfl dX3_right_62 ?_
          refine lv_iload_n hx hb dX3_right_65 rfl (lv_at hl 2 rfl) ?_
          refine bv_iald hx hb hK hP 48 (bv_c48 G _ _ _) j (rfl) (hj) (by decide) dX3_right_66 ?_
          refine bv_eqi (y := nI d0) (ed) ?_
          refine bv_ci (va_runV (As := [.int (nI q), .int (nI d0)]) (rest := []) ⟨hx, hb, hml, hown, hts⟩ (c_X3_isHeir l G S M z q d0 (by omega) (by omega)) (cwV 2 hts gX3_right_X3_isHeir rfl rfl rfl (by decide +kernel) ⟨Nat.le_of_ble_eq_true rfl, Nat.le_of_ble_eq_true rfl⟩) (bv_preV hz hP hK hE hS (ci := 3) (bv_c43 G _ _ _) rfl rfl) rfl rfl hl.1 rfl (lv_room (Nat.le_of_ble_eq_true rfl)) dX3_right_67 ⟨Nat.le_of_ble_eq_true rfl, Nat.le_of_ble_eq_true rfl⟩) hS (fun H locs hP hS => ?_)
          refine bv_ifeqB (tgt := 86) hx hb dX3_right_70 (by decide) (fun c_8 => ?_) (fun c_8 => ?_)
          · refine lv_iconst (v := 3) hx hb dX3_right_86 (by decide) ?_
            exact bv_iret hx hb hr hlocks hS (Nat.le_of_ble_eq_true rfl) (Nat.le_of_ble_eq_true rfl) dX3_right_87 (by simp [bv_rt, c_1, c_2, c_3, c_4, c_8, ed2]) hP
          · refine lv_aload_n hx hb dX3_right_73 rfl (lv_at hl 1 rfl) ?_
            refine bv_get_f (ci := 3) (C := RX3) (T := TX3) (N := 21) hx hb hts hin3 hown hK hP (bv_c43 G _ _ _) rfl 9 (by decide) wl2 rfl rfl dX3_right_74 ?_
            refine lv_iload_n hx hb dX3_right_77 rfl (lv_at hl 2 rfl) ?_
            refine bv_zald hx hb hK hP 51 (bv_c51 G _ _ _) j (rfl) (hj) (by decide) dX3_right_78 ?_
            refine lv_if_ne (tgt := 86) hx hb dX3_right_79 (by decide) (fun c_9 => ?_) (fun c_9 => ?_)
            · refine lv_iconst (v := 3) hx hb dX3_right_86 (by decide) ?_
              exact bv_iret hx hb hr hlocks hS (Nat.le_of_ble_eq_true rfl) (Nat.le_of_ble_eq_true rfl) dX3_right_87 (by simp [bv_rt, c_1, c_2, c_3, c_4, c_8, c_9, ed2]) hP
            · refine lv_iconst (v := 1) hx hb dX3_right_82 (by decide) ?_
              refine lv_goto (tgt := 87) hx hb dX3_right_83 (by decide) ?_
              exact bv_iret hx hb hr hlocks hS (Nat.le_of_ble_eq_true rfl) (Nat.le_of_ble_eq_true rfl) dX3_right_87 (by simp [bv_rt, c_1, c_2, c_3, c_4, c_8, c_9, ed2]) hP
      · obtain ⟨o, ho, eo, eo2, ea, hh0⟩ := bv_I_bd hI c_3
        rw [eo] at hl
        refine lv_aload_n hx hb dX3_right_30 rfl (lv_at hl 1 rfl) ?_
        refine lv_iload_n hx hb dX3_right_31 rfl (lv_at hl 0 rfl) ?_
        refine lv_iload_n hx hb dX3_right_32 rfl (lv_at hl 3 rfl) ?_
        refine bv_ci (va_runV (As := [.int (nI o), .int (nI q)]) (rest := []) ⟨hx, hb, hml, hown, hts⟩ (c_X3_isOrdered l G S M z o j q d0 (ho) (hj) (ea) (hd0) (ed) (ed2) (by omega)) (cwV 2 hts gX3_right_X3_isOrdered rfl rfl rfl (by decide +kernel) ⟨Nat.le_of_ble_eq_true rfl, Nat.le_of_ble_eq_true rfl⟩) (bv_preV hz hP hK hE hS (ci := 3) (bv_c43 G _ _ _) rfl rfl) rfl rfl hl.1 rfl (lv_room (Nat.le_of_ble_eq_true rfl)) dX3_right_33 ⟨Nat.le_of_ble_eq_true rfl, Nat.le_of_ble_eq_true rfl⟩) hS (fun H locs hP hS => ?_)
        refine bv_ifeqB (tgt := 43) hx hb dX3_right_36 (by decide) (fun c_10 => ?_) (fun c_10 => ?_)
        · refine lv_iconst (v := 3) hx hb dX3_right_43 (by decide) ?_
          exact bv_iret hx hb hr hlocks hS (Nat.le_of_ble_eq_true rfl) (Nat.le_of_ble_eq_true rfl) dX3_right_44 (by simp [bv_rt, c_1, c_2, c_3, eo2, c_10, ed2]) hP
        · refine lv_iconst (v := 0) hx hb dX3_right_39 (by decide) ?_
          refine lv_goto (tgt := 44) hx hb dX3_right_40 (by decide) ?_
          exact bv_iret hx hb hr hlocks hS (Nat.le_of_ble_eq_true rfl) (Nat.le_of_ble_eq_true rfl) dX3_right_44 (by simp [bv_rt, c_1, c_2, c_3, eo2, c_10, ed2]) hP
    · refine lv_iconst (v := 3) hx hb dX3_right_17 (by decide) ?_
      exact bv_iret hx hb hr hlocks hS (Nat.le_of_ble_eq_true rfl) (Nat.le_of_ble_eq_true rfl) dX3_right_18 (by simp [bv_rt, c_1, c_2, ed2]) hP
set_option maxHeartbeats 4000000 in
set_option maxRecDepth 100000 in
theorem c_X3_frees (l : Launch) (G : bv_G) (S M : bv_X) (z : bv_Z) (j : Nat) (cn : Nat) (hj : j < 8) (hc : cn ≤ 30) (ec : M 0 1 = nI cn) (h8 : ∀ i, i < 30 → M 8 i = 0 ∨ M 8 i = 1) : bv_Mv l yX3_frees wsX3_frees ({ frames := 0, cells := 0, slots := 0, locals := 0 }) [.ref (bv_a G 43), .int (nI j)] G S M z S (bv_fr (bv_up (bv_up M 9 j 0) 15 j 0) (nI j) cn) z := by
  refine Met.ofW (cc := cX3_frees) (maxL := 3) (ret := none) (by decide) rfl ?_
  intro p e s m args below meth c s₁ B hml hv
  obtain ⟨rfl, hz, hP, hK, hE⟩ := hv
  have hx := B.exec
  have hb := B.bytes
  have hr := B.returns
  have hts := atoms_spec (ws := wsX3_frees) B.pre
  have hown : s.vm.findClass RX3 = some m.cls := findClass_of_methodNamed B.named
  have hlocks := B.notSynchronized
  have hS : va_S (bv_A G) s.heap s.heap [] := va_S.rf
  have wl0 := hts (.fieldLink RX3 20 "BoxVaultModel" "state" "[I") (by decide +kernel)
  have wl1 := hts (.fieldLink RX3 38 "BoxVaultModel" "proxies" "[I") (by decide +kernel)
  have wl2 := hts (.fieldLink RX3 84 "BoxVaultModel" "orders" "I") (by decide +kernel)
  have wl3 := hts (.fieldLink RX3 62 "BoxVaultModel" "holds" "[Z") (by decide +kernel)
  have wl4 := hts (.fieldLink RX3 50 "BoxVaultModel" "at" "[I") (by decide +kernel)
  have hin3 : ∀ w ∈ wsX30, w ∈ wsX3_frees := (fun w h => List.mem_cons_of_mem _ (List.mem_append_right _ h))
  have hl := lv_entry ([.ref (bv_a G 43), .int (nI j)]) (n := 3) (Nat.le_of_ble_eq_true rfl)
  rw [lg_entry_eq]
  generalize (lg_sl ([.ref (bv_a G 43), .int (nI j)]) ++ List.replicate (3 - (lg_sl ([.ref (bv_a G 43), .int (nI j)])).length) Slot.unset).toArray = ls at hl ⊢
  have hl : lv_has ls 3 [(0, .ref (bv_a G 43)), (1, .int (nI j))] := hl
  refine lv_aload_n hx hb dX3_frees_0 rfl (lv_at hl 0 rfl) ?_
  refine bv_get_f (ci := 3) (C := RX3) (T := TX3) (N := 21) hx hb hts hin3 hown hK hP (bv_c43 G _ _ _) rfl 5 (by decide) wl0 rfl rfl dX3_frees_1 ?_
  refine lv_iload_n hx hb dX3_frees_4 rfl (lv_at hl 1 rfl) ?_
  refine lv_iconst (v := 0) hx hb dX3_frees_5 (by decide) ?_
  refine bv_iast hx hb hK hP hS 47 (bv_c47 G _ _ _ ) j (rfl) (hj) (by decide) (bv_s47 G _ _ _ _ _) dX3_frees_6 (fun H locs hP hS => ?_)
  refine lv_aload_n hx hb dX3_frees_7 rfl (lv_at hl 0 rfl) ?_
  refine bv_get_f (ci := 3) (C := RX3) (T := TX3) (N := 21) hx hb hts hin3 hown hK hP (bv_c43 G _ _ _) rfl 11 (by decide) wl1 rfl rfl dX3_frees_8 ?_
  refine lv_iload_n hx hb dX3_frees_11 rfl (lv_at hl 1 rfl) ?_
  refine lv_iconst (v := 0) hx hb dX3_frees_12 (by decide) ?_
  refine bv_iast hx hb hK hP hS 53 (bv_c53 G _ _ _ ) j (rfl) (hj) (by decide) (bv_s53 G _ _ _ _ _) dX3_frees_13 (fun H locs hP hS => ?_)
  refine lv_iconst (v := 0) hx hb dX3_frees_14 (by decide) ?_
  refine lv_istore_n (lv' := [(2, .int 0), (0, .ref (bv_a G 43)), (1, .int (nI j))]) hx hb dX3_frees_15 rfl hl (by decide) rfl (fun ls hl => ?_)
  refine bv_loop (G := G) (z := z) (nL := 3) (head := 16) cn (fun i => S) (fun i => bv_fr (bv_up (bv_up M 9 j 0) 15 j 0) (nI j) i) (fun i => [(0, .ref (bv_a G 43)), (1, .int (nI j)), (2, .int (nI i))]) (fun i => True) (fun i hi hv ih H locs ls hP hS hl => ?_) (trivial) _ _ _ (by rw [bv_fr_0]; exact hP) hS (lv_sub hl [1, 2, 0] rfl)
  have hP : bv_H G S (bv_fr (bv_up (bv_up M 9 j 0) 15 j 0) (nI j) i) z H := hP
  have hl : lv_has ls 3 [(0, .ref (bv_a G 43)), (1, .int (nI j)), (2, .int (nI i))] := hl
  refine lv_iload_n hx hb dX3_frees_16 rfl (lv_at hl 2 rfl) ?_
  refine lv_aload_n hx hb dX3_frees_17 rfl (lv_at hl 0 rfl) ?_
  refine bv_get_f (ci := 3) (C := RX3) (T := TX3) (N := 21) hx hb hts hin3 hown hK hP (bv_c43 G _ _ _) rfl 15 (by decide) wl2 rfl rfl dX3_frees_18 ?_
  refine lv_icmp_ge (tgt := 60) hx hb dX3_frees_21 (by decide) (fun c_1 => ?_) (fun c_1 => ?_)
  · have c_1 : (M 0 1) ≤ (nI i) := c_1
    have hW : bv_H G S (bv_fr (bv_up (bv_up M 9 j 0) 15 j 0) (nI j) cn) z H := by
      rw [← bv_eq_of ec (by omega) hi (by assumption)]
      exact hP
    exact bv_vret hx hb hr hlocks hS (Nat.le_of_ble_eq_true rfl) (Nat.le_of_ble_eq_true rfl) dX3_frees_60 hW
  · have c_1 : ¬ (M 0 1) ≤ (nI i) := c_1
    have hlt : i < cn := bv_lt_of ec (by omega) hi c_1
    refine lv_aload_n hx hb dX3_frees_24 rfl (lv_at hl 0 rfl) ?_
    refine bv_get_f (ci := 3) (C := RX3) (T := TX3) (N := 21) hx hb hts hin3 hown hK hP (bv_c43 G _ _ _) rfl 20 (by decide) wl3 rfl rfl dX3_frees_25 ?_
    refine lv_iload_n hx hb dX3_frees_28 rfl (lv_at hl 2 rfl) ?_
    refine lv_aload_n hx hb dX3_frees_29 rfl (lv_at hl 0 rfl) ?_
    refine bv_get_f (ci := 3) (C := RX3) (T := TX3) (N := 21) hx hb hts hin3 hown hK hP (bv_c43 G _ _ _) rfl 20 (by decide) wl3 rfl rfl dX3_frees_30 ?_
    refine lv_iload_n hx hb dX3_frees_33 rfl (lv_at hl 2 rfl) ?_
    refine bv_zald hx hb hK hP 61 (bv_c61 G _ _ _) i (rfl) (by omega) (by decide) dX3_frees_34 ?_
    refine lv_if_eq (tgt := 52) hx hb dX3_frees_35 (by decide) (fun c_2 => ?_) (fun c_2 => ?_)
    · have c_2 : ((bv_fr (bv_up (bv_up M 9 j 0) 15 j 0) (nI j) i) 8 i) = 0 := c_2
      refine lv_iconst (v := 0) hx hb dX3_frees_52 (by decide) ?_
      refine bv_zast hx hb hK hP hS 61 (bv_c61 G _ _ _ ) i (rfl) (by omega) (by decide) (rfl) (bv_s61 G _ _ _ _ _) dX3_frees_53 (fun H locs hP hS => ?_)
      refine lv_iinc (v := nI (i + 1)) (lv' := [(2, .int (nI (i + 1))), (0, .ref (bv_a G 43)), (1, .int (nI j))]) hx hb dX3_frees_54 hl (k := 2) rfl (nI_1 _) (by decide) rfl (fun ls hl => ?_)
      refine lv_goto (tgt := 16) hx hb dX3_frees_57 (by decide) ?_
      have hW : bv_H G S (bv_fr (bv_up (bv_up M 9 j 0) 15 j 0) (nI j) (i + 1)) z H := by
        first | (rw [← bv_fr_a (by assumption)]; exact hP) | (rw [← bv_fr_y (by assumption)]; exact hP) | (rw [← bv_fr_b (Y := bv_up (bv_up M 9 j 0) 15 j 0) (h8 i (by omega)) (by assumption) (by assumption)]; exact hP)
      exact ih (by omega) (trivial) _ _ _ hW hS (lv_sub hl [1, 2, 0] rfl)
    · have c_2 : ¬ ((bv_fr (bv_up (bv_up M 9 j 0) 15 j 0) (nI j) i) 8 i) = 0 := c_2
      refine lv_aload_n hx hb dX3_frees_38 rfl (lv_at hl 0 rfl) ?_
      refine bv_get_f (ci := 3) (C := RX3) (T := TX3) (N := 21) hx hb hts hin3 hown hK hP (bv_c43 G _ _ _) rfl 16 (by decide) wl4 rfl rfl dX3_frees_39 ?_
      refine lv_iload_n hx hb dX3_frees_42 rfl (lv_at hl 2 rfl) ?_
      refine bv_iald hx hb hK hP 57 (bv_c57 G _ _ _) i (rfl) (by omega) (by decide) dX3_frees_43 ?_
      refine lv_iload_n hx hb dX3_frees_44 rfl (lv_at hl 1 rfl) ?_
      refine lv_icmp_eq (tgt := 52) hx hb dX3_frees_45 (by decide) (fun c_3 => ?_) (fun c_3 => ?_)
      · have c_3 : (M 4 i) = (nI j) := c_3
        refine lv_iconst (v := 0) hx hb dX3_frees_52 (by decide) ?_
        refine bv_zast hx hb hK hP hS 61 (bv_c61 G _ _ _ ) i (rfl) (by omega) (by decide) (rfl) (bv_s61 G _ _ _ _ _) dX3_frees_53 (fun H locs hP hS => ?_)
        refine lv_iinc (v := nI (i + 1)) (lv' := [(2, .int (nI (i + 1))), (0, .ref (bv_a G 43)), (1, .int (nI j))]) hx hb dX3_frees_54 hl (k := 2) rfl (nI_1 _) (by decide) rfl (fun ls hl => ?_)
        refine lv_goto (tgt := 16) hx hb dX3_frees_57 (by decide) ?_
        have hW : bv_H G S (bv_fr (bv_up (bv_up M 9 j 0) 15 j 0) (nI j) (i + 1)) z H := by
          first | (rw [← bv_fr_a (by assumption)]; exact hP) | (rw [← bv_fr_y (by assumption)]; exact hP) | (rw [← bv_fr_b (Y := bv_up (bv_up M 9 j 0) 15 j 0) (h8 i (by omega)) (by assumption) (by assumption)]; exact hP)
        exact ih (by omega) (trivial) _ _ _ hW hS (lv_sub hl [1, 2, 0] rfl)
      · have c_3 : ¬ (M 4 i) = (nI j) := c_3
        refine lv_iconst (v := 1) hx hb dX3_frees_48 (by decide) ?_
        refine lv_goto (tgt := 53) hx hb dX3_frees_49 (by decide) ?_
        refine bv_zast hx hb hK hP hS 61 (bv_c61 G _ _ _ ) i (rfl) (by omega) (by decide) (rfl) (bv_s61 G _ _ _ _ _) dX3_frees_53 (fun H locs hP hS => ?_)
        refine lv_iinc (v := nI (i + 1)) (lv' := [(2, .int (nI (i + 1))), (0, .ref (bv_a G 43)), (1, .int (nI j))]) hx hb dX3_frees_54 hl (k := 2) rfl (nI_1 _) (by decide) rfl (fun ls hl => ?_)
        refine lv_goto (tgt := 16) hx hb dX3_frees_57 (by decide) ?_
        have hW : bv_H G S (bv_fr (bv_up (bv_up M 9 j 0) 15 j 0) (nI j) (i + 1)) z H := by
          first | (rw [← bv_fr_a (by assumption)]; exact hP) | (rw [← bv_fr_y (by assumption)]; exact hP) | (rw [← bv_fr_b (Y := bv_up (bv_up M 9 j 0) 15 j 0) (h8 i (by omega)) (by assumption) (by assumption)]; exact hP)
        exact ih (by omega) (trivial) _ _ _ hW hS (lv_sub hl [1, 2, 0] rfl)
