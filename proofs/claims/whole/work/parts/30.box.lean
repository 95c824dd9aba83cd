set_option maxHeartbeats 4000000 in
set_option maxRecDepth 100000 in
theorem c_X0_isFree (l : Launch) (G : bv_G) (S M : bv_X) (z : bv_Z) (j : Nat) (hj : j < 8) : bv_M l yX0_isFree wsX0_isFree ({ frames := 0, cells := 0, slots := 0, locals := 0 }) [.ref (bv_a G (11 + j))] G S M z (bI (S 9 j = 0)) S M z := by
  refine Met.ofW (cc := cX0_isFree) (maxL := 1) (ret := (some .boolean)) (by decide) rfl ?_
  intro p e s m args below meth c s₁ B hml hv
  obtain ⟨rfl, hz, hP, hK, hE⟩ := hv
  have hx := B.exec
  have hb := B.bytes
  have hr := B.returns
  have hts := atoms_spec (ws := wsX0_isFree) B.pre
  have hown : s.vm.findClass RX0 = some m.cls := findClass_of_methodNamed B.named
  have hlocks := B.notSynchronized
  have hS : va_S (bv_A G) s.heap s.heap [] := va_S.rf
  have wl0 := hts (.fieldLink RX0 11 "BoxVault$Box" "state" "I") (by decide +kernel)
  have hin0 : ∀ w ∈ wsX00, w ∈ wsX0_isFree := (fun w h => List.mem_cons_of_mem _ (List.mem_append_right _ h))
  have hl := lv_entry ([.ref (bv_a G (11 + j))]) (n := 1) (Nat.le_of_ble_eq_true rfl)
  rw [lg_entry_eq]
  generalize (lg_sl ([.ref (bv_a G (11 + j))]) ++ List.replicate (1 - (lg_sl ([.ref (bv_a G (11 + j))])).length) Slot.unset).toArray = ls at hl ⊢
  have hl : lv_has ls 1 [(0, .ref (bv_a G (11 + j)))] := hl
  refine lv_aload_n hx hb dX0_isFree_0 rfl (lv_at hl 0 rfl) ?_
  refine bv_get_f (ci := 0) (C := RX0) (T := TX0) (N := 10) hx hb hts hin0 hown hK hP (bv_cB G _ _ _ (hj)) rfl 0 (by decide) wl0 rfl rfl dX0_isFree_1 ?_
  refine lv_if_ne (tgt := 11) hx hb dX0_isFree_4 (by decide) (fun c_1 => ?_) (fun c_1 => ?_)
  · refine lv_iconst (v := 0) hx hb dX0_isFree_11 (by decide) ?_
    exact bv_zret hx hb hr hlocks (rfl) hS (Nat.le_of_ble_eq_true rfl) (Nat.le_of_ble_eq_true rfl) dX0_isFree_12 (bI_f (by first | assumption | (intro h; contradiction))).symm hP
  · refine lv_iconst (v := 1) hx hb dX0_isFree_7 (by decide) ?_
    refine lv_goto (tgt := 12) hx hb dX0_isFree_8 (by decide) ?_
    exact bv_zret hx hb hr hlocks (rfl) hS (Nat.le_of_ble_eq_true rfl) (Nat.le_of_ble_eq_true rfl) dX0_isFree_12 (bI_t (by first | assumption | (intro h; contradiction))).symm hP
set_option maxHeartbeats 4000000 in
set_option maxRecDepth 100000 in
theorem c_X0_isRented (l : Launch) (G : bv_G) (S M : bv_X) (z : bv_Z) (j : Nat) (hj : j < 8) : bv_M l yX0_isRented wsX0_isRented ({ frames := 0, cells := 0, slots := 0, locals := 0 }) [.ref (bv_a G (11 + j))] G S M z (bI (S 9 j = 1)) S M z := by
  refine Met.ofW (cc := cX0_isRented) (maxL := 1) (ret := (some .boolean)) (by decide) rfl ?_
  intro p e s m args below meth c s₁ B hml hv
  obtain ⟨rfl, hz, hP, hK, hE⟩ := hv
  have hx := B.exec
  have hb := B.bytes
  have hr := B.returns
  have hts := atoms_spec (ws := wsX0_isRented) B.pre
  have hown : s.vm.findClass RX0 = some m.cls := findClass_of_methodNamed B.named
  have hlocks := B.notSynchronized
  have hS : va_S (bv_A G) s.heap s.heap [] := va_S.rf
  have wl0 := hts (.fieldLink RX0 11 "BoxVault$Box" "state" "I") (by decide +kernel)
  have hin0 : ∀ w ∈ wsX00, w ∈ wsX0_isRented := (fun w h => List.mem_cons_of_mem _ (List.mem_append_right _ h))
  have hl := lv_entry ([.ref (bv_a G (11 + j))]) (n := 1) (Nat.le_of_ble_eq_true rfl)
  rw [lg_entry_eq]
  generalize (lg_sl ([.ref (bv_a G (11 + j))]) ++ List.replicate (1 - (lg_sl ([.ref (bv_a G (11 + j))])).length) Slot.unset).toArray = ls at hl ⊢
  have hl : lv_has ls 1 [(0, .ref (bv_a G (11 + j)))] := hl
  refine lv_aload_n hx hb dX0_isRented_0 rfl (lv_at hl 0 rfl) ?_
  refine bv_get_f (ci := 0) (C := RX0) (T := TX0) (N := 10) hx hb hts hin0 hown hK hP (bv_cB G _ _ _ (hj)) rfl 0 (by decide) wl0 rfl rfl dX0_isRented_1 ?_
  refine lv_iconst (v := 1) hx hb dX0_isRented_4 (by decide) ?_
  refine lv_icmp_ne (tgt := 12) hx hb dX0_isRented_5 (by decide) (fun c_1 => ?_) (fun c_1 => ?_)
  · refine lv_iconst (v := 0) hx hb dX0_isRented_12 (by decide) ?_
    exact bv_zret hx hb hr hlocks (rfl) hS (Nat.le_of_ble_eq_true rfl) (Nat.le_of_ble_eq_true rfl) dX0_isRented_13 (bI_f (by first | assumption | (intro h; contradiction))).symm hP
  · refine lv_iconst (v := 1) hx hb dX0_isRented_8 (by decide) ?_
    refine lv_goto (tgt := 13) hx hb dX0_isRented_9 (by decide) ?_
    exact bv_zret hx hb hr hlocks (rfl) hS (Nat.le_of_ble_eq_true rfl) (Nat.le_of_ble_eq_true rfl) dX0_isRented_13 (bI_t (by first | assumption | (intro h; contradiction))).symm hP
set_option maxHeartbeats 4000000 in
set_option maxRecDepth 100000 in
theorem c_X0_startRent (l : Launch) (G : bv_G) (S M : bv_X) (z : bv_Z) (j : Nat) (p0 : Int32) (p1 : Int32) (hj : j < 8) : bv_Mv l yX0_startRent wsX0_startRent ({ frames := 0, cells := 0, slots := 0, locals := 0 }) [.ref (bv_a G (11 + j)), .int p0, .int p1] G S M z (bv_up (bv_up (bv_up (bv_up (bv_up S 9 j 1) 10 j p0) 11 j p1) 13 j 0) 14 j 0) M z := by
  refine Met.ofW (cc := cX0_startRent) (maxL := 3) (ret := none) (by decide) rfl ?_
  intro p e s m args below meth c s₁ B hml hv
  obtain ⟨rfl, hz, hP, hK, hE⟩ := hv
  have hx := B.exec
  have hb := B.bytes
  have hr := B.returns
  have hts := atoms_spec (ws := wsX0_startRent) B.pre
  have hown : s.vm.findClass RX0 = some m.cls := findClass_of_methodNamed B.named
  have hlocks := B.notSynchronized
  have hS : va_S (bv_A G) s.heap s.heap [] := va_S.rf
  have wl0 := hts (.fieldLink RX0 11 "BoxVault$Box" "state" "I") (by decide +kernel)
  have wl1 := hts (.fieldLink RX0 15 "BoxVault$Box" "holder" "I") (by decide +kernel)
  have wl2 := hts (.fieldLink RX0 18 "BoxVault$Box" "paidUpTo" "I") (by decide +kernel)
  have wl3 := hts (.fieldLink RX0 24 "BoxVault$Box" "entries" "I") (by decide +kernel)
  have wl4 := hts (.fieldLink RX0 27 "BoxVault$Box" "willSought" "Z") (by decide +kernel)
  have hin0 : ∀ w ∈ wsX00, w ∈ wsX0_startRent := (fun w h => List.mem_cons_of_mem _ (List.mem_append_right _ h))
  have hl := lv_entry ([.ref (bv_a G (11 + j)), .int p0, .int p1]) (n := 3) (Nat.le_of_ble_eq_true rfl)
  rw [lg_entry_eq]
  generalize (lg_sl ([.ref (bv_a G (11 + j)), .int p0, .int p1]) ++ List.replicate (3 - (lg_sl ([.ref (bv_a G (11 + j)), .int p0, .int p1])).length) Slot.unset).toArray = ls at hl ⊢
  have hl : lv_has ls 3 [(0, .ref (bv_a G (11 + j))), (1, .int p0), (2, .int p1)] := hl
  refine lv_aload_n hx hb dX0_startRent_0 rfl (lv_at hl 0 rfl) ?_
  refine lv_iconst (v := 1) hx hb dX0_startRent_1 (by decide) ?_
  refine bv_put_f (ci := 0) (C := RX0) (T := TX0) (N := 10) (ty := .int) hx hb hts hin0 tyX0 tyX0_ok nmX0 hown hK hP hS (bv_cB G _ _ _ (hj)) rfl 0 (by decide) wl0 rfl rfl rfl rfl rfl (Nat.le_of_ble_eq_true rfl) rfl (bv_sB9 G _ _ _ (hj) _) dX0_startRent_2 (fun H locs hP hS => ?_)
  refine lv_aload_n hx hb dX0_startRent_5 rfl (lv_at hl 0 rfl) ?_
  refine lv_iload_n hx hb dX0_startRent_6 rfl (lv_at hl 1 rfl) ?_
  refine bv_put_f (ci := 0) (C := RX0) (T := TX0) (N := 10) (ty := .int) hx hb hts hin0 tyX0 tyX0_ok nmX0 hown hK hP hS (bv_cB G _ _ _ (hj)) rfl 1 (by decide) wl1 rfl rfl rfl rfl rfl (Nat.le_of_ble_eq_true rfl) rfl (bv_sB10 G _ _ _ (hj) _) dX0_startRent_7 (fun H locs hP hS => ?_)
  refine lv_aload_n hx hb dX0_startRent_10 rfl (lv_at hl 0 rfl) ?_
  refine lv_iload_n hx hb dX0_startRent_11 rfl (lv_at hl 2 rfl) ?_
  refine bv_put_f (ci := 0) (C := RX0) (T := TX0) (N := 10) (ty := .int) hx hb hts hin0 tyX0 tyX0_ok nmX0 hown hK hP hS (bv_cB G _ _ _ (hj)) rfl 2 (by decide) wl2 rfl rfl rfl rfl rfl (Nat.le_of_ble_eq_true rfl) rfl (bv_sB11 G _ _ _ (hj) _) dX0_startRent_12 (fun H locs hP hS => ?_)
  refine lv_aload_n hx hb dX0_startRent_15 rfl (lv_at hl 0 rfl) ?_
  refine lv_iconst (v := 0) hx hb dX0_startRent_16 (by decide) ?_
  refine bv_put_f (ci := 0) (C := RX0) (T := TX0) (N := 10) (ty := .int) hx hb hts hin0 tyX0 tyX0_ok nmX0 hown hK hP hS (bv_cB G _ _ _ (hj)) rfl 4 (by decide) wl3 rfl rfl rfl rfl rfl (Nat.le_of_ble_eq_true rfl) rfl (bv_sB13 G _ _ _ (hj) _) dX0_startRent_17 (fun H locs hP hS => ?_)
  refine lv_aload_n hx hb dX0_startRent_20 rfl (lv_at hl 0 rfl) ?_
  refine lv_iconst (v := 0) hx hb dX0_startRent_21 (by decide) ?_
  refine bv_put_f (ci := 0) (C := RX0) (T := TX0) (N := 10) (ty := .boolean) hx hb hts hin0 tyX0 tyX0_ok nmX0 hown hK hP hS (bv_cB G _ _ _ (hj)) rfl 5 (by decide) wl4 rfl rfl rfl rfl rfl (Nat.le_of_ble_eq_true rfl) rfl (bv_sB14 G _ _ _ (hj) _) dX0_startRent_22 (fun H locs hP hS => ?_)
  exact bv_vret hx hb hr hlocks hS (Nat.le_of_ble_eq_true rfl) (Nat.le_of_ble_eq_true rfl) dX0_startRent_25 hP
set_option maxHeartbeats 4000000 in
set_option maxRecDepth 100000 in
theorem c_X0_endProxies (l : Launch) (G : bv_G) (S M : bv_X) (z : bv_Z) (j : Nat) (hj : j < 8) : bv_Mv l yX0_endProxies wsX0_endProxies ({ frames := 0, cells := 0, slots := 0, locals := 0 }) [.ref (bv_a G (11 + j))] G S M z (bv_up S 15 j 0) M z := by
  refine Met.ofW (cc := cX0_endProxies) (maxL := 1) (ret := none) (by decide) rfl ?_
  intro p e s m args below meth c s₁ B hml hv
  obtain ⟨rfl, hz, hP, hK, hE⟩ := hv
  have hx := B.exec
  have hb := B.bytes
  have hr := B.returns
  have hts := atoms_spec (ws := wsX0_endProxies) B.pre
  have hown : s.vm.findClass RX0 = some m.cls := findClass_of_methodNamed B.named
  have hlocks := B.notSynchronized
  have hS : va_S (bv_A G) s.heap s.heap [] := va_S.rf
  have wl0 := hts (.fieldLink RX0 31 "BoxVault$Box" "proxyCount" "I") (by decide +kernel)
  have hin0 : ∀ w ∈ wsX00, w ∈ wsX0_endProxies := (fun w h => List.mem_cons_of_mem _ (List.mem_append_right _ h))
  have hl := lv_entry ([.ref (bv_a G (11 + j))]) (n := 1) (Nat.le_of_ble_eq_true rfl)
  rw [lg_entry_eq]
  generalize (lg_sl ([.ref (bv_a G (11 + j))]) ++ List.replicate (1 - (lg_sl ([.ref (bv_a G (11 + j))])).length) Slot.unset).toArray = ls at hl ⊢
  have hl : lv_has ls 1 [(0, .ref (bv_a G (11 + j)))] := hl
  refine lv_aload_n hx hb dX0_endProxies_0 rfl (lv_at hl 0 rfl) ?_
  refine lv_iconst (v := 0) hx hb dX0_endProxies_1 (by decide) ?_
  refine bv_put_f (ci := 0) (C := RX0) (T := TX0) (N := 10) (ty := .int) hx hb hts hin0 tyX0 tyX0_ok nmX0 hown hK hP hS (bv_cB G _ _ _ (hj)) rfl 6 (by decide) wl0 rfl rfl rfl rfl rfl (Nat.le_of_ble_eq_true rfl) rfl (bv_sB15 G _ _ _ (hj) _) dX0_endProxies_2 (fun H locs hP hS => ?_)
  exact bv_vret hx hb hr hlocks hS (Nat.le_of_ble_eq_true rfl) (Nat.le_of_ble_eq_true rfl) dX0_endProxies_5 hP
set_option maxHeartbeats 4000000 in
set_option maxRecDepth 100000 in
theorem c_X0_empty (l : Launch) (G : bv_G) (S M : bv_X) (z : bv_Z) (j : Nat) (hj : j < 8) : bv_Mv l yX0_empty wsX0_empty ({ frames := 1, cells := 0, slots := 0, locals := 20 }) [.ref (bv_a G (11 + j))] G S M z (bv_up (bv_up (bv_up S 9 j 0) 10 j (-1)) 15 j 0) M z := by
  refine Met.ofW (cc := cX0_empty) (maxL := 1) (ret := none) (by decide) rfl ?_
  intro p e s m args below meth c s₁ B hml hv
  obtain ⟨rfl, hz, hP, hK, hE⟩ := hv
  have hx := B.exec
  have hb := B.bytes
  have hr := B.returns
  have hts := atoms_spec (ws := wsX0_empty) B.pre
  have hown : s.vm.findClass RX0 = some m.cls := findClass_of_methodNamed B.named
  have hlocks := B.notSynchronized
  have hS : va_S (bv_A G) s.heap s.heap [] := va_S.rf
  have wl0 := hts (.fieldLink RX0 11 "BoxVault$Box" "state" "I") (by decide +kernel)
  have wl1 := hts (.fieldLink RX0 15 "BoxVault$Box" "holder" "I") (by decide +kernel)
  have hin0 : ∀ w ∈ wsX00, w ∈ wsX0_empty := (fun w h => List.mem_cons_of_mem _ (List.mem_append_right _ h))
  have hl := lv_entry ([.ref (bv_a G (11 + j))]) (n := 1) (Nat.le_of_ble_eq_true rfl)
  rw [lg_entry_eq]
  generalize (lg_sl ([.ref (bv_a G (11 + j))]) ++ List.replicate (1 - (lg_sl ([.ref (bv_a G (11 + j))])).length) Slot.unset).toArray = ls at hl ⊢
  have hl : lv_has ls 1 [(0, .ref (bv_a G (11 + j)))] := hl
  refine lv_aload_n hx hb dX0_empty_0 rfl (lv_at hl 0 rfl) ?_
  refine lv_iconst (v := 0) hx hb dX0_empty_1 (by decide) ?_
  refine bv_put_f (ci := 0) (C := RX0) (T := TX0) (N := 10) (ty := .int) hx hb hts hin0 tyX0 tyX0_ok nmX0 hown hK hP hS (bv_cB G _ _ _ (hj)) rfl 0 (by decide) wl0 rfl rfl rfl rfl rfl (Nat.le_of_ble_eq_true rfl) rfl (bv_sB9 G _ _ _ (hj) _) dX0_empty_2 (fun H locs hP hS => ?_)
  refine lv_aload_n hx hb dX0_empty_5 rfl (lv_at hl 0 rfl) ?_
  refine lv_iconst (v := (-1)) hx hb dX0_empty_6 (by decide) ?_
  refine bv_put_f (ci := 0) (C := RX0) (T := TX0) (N := 10) (ty := .int) hx hb hts hin0 tyX0 tyX0_ok nmX0 hown hK hP hS (bv_cB G _ _ _ (hj)) rfl 1 (by decide) wl1 rfl rfl rfl rfl rfl (Nat.le_of_ble_eq_true rfl) rfl (bv_sB10 G _ _ _ (hj) _) dX0_empty_7 (fun H locs hP hS => ?_)
  refine lv_aload_n hx hb dX0_empty_10 rfl (lv_at hl 0 rfl) ?_
  refine bv_cv (va_runV (As := []) (rest := []) ⟨hx, hb, hml, hown, hts⟩ (c_X0_endProxies l G (bv_up (bv_up S 9 j 0) 10 j (-1)) M z j (by omega)) (cwV 0 hts gX0_empty_X0_endProxies rfl rfl rfl (by decide +kernel) ⟨Nat.le_of_ble_eq_true rfl, Nat.le_of_ble_eq_true rfl⟩) (bv_preV hz hP hK hE hS (ci := 0) (bv_cB G _ _ _ (hj)) rfl rfl) rfl rfl hl.1 rfl (lv_room (Nat.le_of_ble_eq_true rfl)) dX0_empty_11 ⟨Nat.le_of_ble_eq_true rfl, Nat.le_of_ble_eq_true rfl⟩) hS (fun H locs hP hS => ?_)
  exact bv_vret hx hb hr hlocks hS (Nat.le_of_ble_eq_true rfl) (Nat.le_of_ble_eq_true rfl) dX0_empty_14 hP
set_option maxHeartbeats 4000000 in
set_option maxRecDepth 100000 in
theorem c_X0_overdueOn (l : Launch) (G : bv_G) (S M : bv_X) (z : bv_Z) (j : Nat) (p0 : Int32) (hj : j < 8) : bv_M l yX0_overdueOn wsX0_overdueOn ({ frames := 1, cells := 0, slots := 0, locals := 13 }) [.ref (bv_a G (11 + j)), .int p0] G S M z (bv_vo p0 (S 11 j)) S M z := by
  refine Met.ofW (cc := cX0_overdueOn) (maxL := 2) (ret := (some .int)) (by decide) rfl ?_
  intro p e s m args below meth c s₁ B hml hv
  obtain ⟨rfl, hz, hP, hK, hE⟩ := hv
  have hx := B.exec
  have hb := B.bytes
  have hr := B.returns
  have hts := atoms_spec (ws := wsX0_overdueOn) B.pre
  have hown : s.vm.findClass RX0 = some m.cls := findClass_of_methodNamed B.named
  have hlocks := B.notSynchronized
  have hS : va_S (bv_A G) s.heap s.heap [] := va_S.rf
  have wl0 := hts (.fieldLink RX0 18 "BoxVault$Box" "paidUpTo" "I") (by decide +kernel)
  have wl1 := hts (.methodLink RX0 51 Lib.Math.max.name) (by decide +kernel)
  have wl2 := hts (.static Lib.Math.max.name) (by decide +kernel)
  have wl3 := hts (.initialized "java/lang/Math") (by decide +kernel)
  have wl4 := hts (.code Lib.Math.max.name Lib.Math.max.code 2 (some .int)) (by decide +kernel)
  have hin0 : ∀ w ∈ wsX00, w ∈ wsX0_overdueOn := (fun w h => List.mem_cons_of_mem _ (List.mem_append_right _ h))
  have hl := lv_entry ([.ref (bv_a G (11 + j)), .int p0]) (n := 2) (Nat.le_of_ble_eq_true rfl)
  rw [lg_entry_eq]
  generalize (lg_sl ([.ref (bv_a G (11 + j)), .int p0]) ++ List.replicate (2 - (lg_sl ([.ref (bv_a G (11 + j)), .int p0])).length) Slot.unset).toArray = ls at hl ⊢
  have hl : lv_has ls 2 [(0, .ref (bv_a G (11 + j))), (1, .int p0)] := hl
  refine lv_iconst (v := 0) hx hb dX0_overdueOn_0 (by decide) ?_
  refine lv_iload_n hx hb dX0_overdueOn_1 rfl (lv_at hl 1 rfl) ?_
  refine lv_aload_n hx hb dX0_overdueOn_2 rfl (lv_at hl 0 rfl) ?_
  refine bv_get_f (ci := 0) (C := RX0) (T := TX0) (N := 10) hx hb hts hin0 hown hK hP (bv_cB G _ _ _ (hj)) rfl 2 (by decide) wl0 rfl rfl dX0_overdueOn_3 ?_
  refine lv_isub hx hb dX0_overdueOn_6 ?_
  refine va_mmax hx hb (hml.trans hl.1.symm) hown wl1 wl2 wl3 wl4 (Nat.le_of_ble_eq_true rfl) (Nat.le_of_ble_eq_true rfl) (Nat.le_of_ble_eq_true rfl) (Nat.le_of_ble_eq_true rfl) dX0_overdueOn_7 ?_
  exact bv_iret hx hb hr hlocks hS (Nat.le_of_ble_eq_true rfl) (Nat.le_of_ble_eq_true rfl) dX0_overdueOn_10 (by rfl) hP
set_option maxHeartbeats 4000000 in
set_option maxRecDepth 100000 in
theorem c_X0_breakOpen (l : Launch) (G : bv_G) (S M : bv_X) (z : bv_Z) (j : Nat) (p0 : Int32) (hj : j < 8) : bv_Mv l yX0_breakOpen wsX0_breakOpen ({ frames := 2, cells := 0, slots := 0, locals := 34 }) [.ref (bv_a G (11 + j)), .int p0] G S M z (bv_up (bv_up S 9 j 2) 12 j (bv_vo p0 (S 11 j))) M z := by
  refine Met.ofW (cc := cX0_breakOpen) (maxL := 2) (ret := none) (by decide) rfl ?_
  intro p e s m args below meth c s₁ B hml hv
  obtain ⟨rfl, hz, hP, hK, hE⟩ := hv
  have hx := B.exec
  have hb := B.bytes
  have hr := B.returns
  have hts := atoms_spec (ws := wsX0_breakOpen) B.pre
  have hown : s.vm.findClass RX0 = some m.cls := findClass_of_methodNamed B.named
  have hlocks := B.notSynchronized
  have hS : va_S (bv_A G) s.heap s.heap [] := va_S.rf
  have wl0 := hts (.fieldLink RX0 11 "BoxVault$Box" "state" "I") (by decide +kernel)
  have wl1 := hts (.fieldLink RX0 21 "BoxVault$Box" "unpaidDays" "I") (by decide +kernel)
  have hin0 : ∀ w ∈ wsX00, w ∈ wsX0_breakOpen := (fun w h => List.mem_cons_of_mem _ (List.mem_append_right _ h))
  have hl := lv_entry ([.ref (bv_a G (11 + j)), .int p0]) (n := 2) (Nat.le_of_ble_eq_true rfl)
  rw [lg_entry_eq]
  generalize (lg_sl ([.ref (bv_a G (11 + j)), .int p0]) ++ List.replicate (2 - (lg_sl ([.ref (bv_a G (11 + j)), .int p0])).length) Slot.unset).toArray = ls at hl ⊢
  have hl : lv_has ls 2 [(0, .ref (bv_a G (11 + j))), (1, .int p0)] := hl
  refine lv_aload_n hx hb dX0_breakOpen_0 rfl (lv_at hl 0 rfl) ?_
  refine lv_iconst (v := 2) hx hb dX0_breakOpen_1 (by decide) ?_
  refine bv_put_f (ci := 0) (C := RX0) (T := TX0) (N := 10) (ty := .int) hx hb hts hin0 tyX0 tyX0_ok nmX0 hown hK hP hS (bv_cB G _ _ _ (hj)) rfl 0 (by decide) wl0 rfl rfl rfl rfl rfl (Nat.le_of_ble_eq_true rfl) rfl (bv_sB9 G _ _ _ (hj) _) dX0_breakOpen_2 (fun H locs hP hS => ?_)
  refine lv_aload_n hx hb dX0_breakOpen_5 rfl (lv_at hl 0 rfl) ?_
  refine lv_aload_n hx hb dX0_breakOpen_6 rfl (lv_at hl 0 rfl) ?_
  refine lv_iload_n hx hb dX0_breakOpen_7 rfl (lv_at hl 1 rfl) ?_
  refine bv_ci (va_runV (As := [.int p0]) (rest := [.ref (bv_a G (11 + j))]) ⟨hx, hb, hml, hown, hts⟩ (c_X0_overdueOn l G (bv_up S 9 j 2) M z j p0 (by omega)) (cwV 1 hts gX0_breakOpen_X0_overdueOn rfl rfl rfl (by decide +kernel) ⟨Nat.le_of_ble_eq_true rfl, Nat.le_of_ble_eq_true rfl⟩) (bv_preV hz hP hK hE hS (ci := 0) (bv_cB G _ _ _ (hj)) rfl rfl) rfl rfl hl.1 rfl (lv_room (Nat.le_of_ble_eq_true rfl)) dX0_breakOpen_8 ⟨Nat.le_of_ble_eq_true rfl, Nat.le_of_ble_eq_true rfl⟩) hS (fun H locs hP hS => ?_)
  refine bv_put_f (ci := 0) (C := RX0) (T := TX0) (N := 10) (ty := .int) hx hb hts hin0 tyX0 tyX0_ok nmX0 hown hK hP hS (bv_cB G _ _ _ (hj)) rfl 3 (by decide) wl1 rfl rfl rfl rfl rfl (Nat.le_of_ble_eq_true rfl) rfl (bv_sB12 G _ _ _ (hj) _) dX0_breakOpen_11 (fun H locs hP hS => ?_)
  exact bv_vret hx hb hr hlocks hS (Nat.le_of_ble_eq_true rfl) (Nat.le_of_ble_eq_true rfl) dX0_breakOpen_14 hP
set_option maxHeartbeats 4000000 in
set_option maxRecDepth 100000 in
theorem c_X0_noticesOn (l : Launch) (G : bv_G) (S M : bv_X) (z : bv_Z) (j : Nat) (p0 : Int32) (hj : j < 8) : bv_M l yX0_noticesOn wsX0_noticesOn ({ frames := 2, cells := 0, slots := 0, locals := 34 }) [.ref (bv_a G (11 + j)), .int p0] G S M z (bv_vn p0 (S 11 j)) S M z := by
  refine Met.ofW (cc := cX0_noticesOn) (maxL := 2) (ret := (some .int)) (by decide) rfl ?_
  intro p e s m args below meth c s₁ B hml hv
  obtain ⟨rfl, hz, hP, hK, hE⟩ := hv
  have hx := B.exec
  have hb := B.bytes
  have hr := B.returns
  have hts := atoms_spec (ws := wsX0_noticesOn) B.pre
  have hown : s.vm.findClass RX0 = some m.cls := findClass_of_methodNamed B.named
  have hlocks := B.notSynchronized
  have hS : va_S (bv_A G) s.heap s.heap [] := va_S.rf
  have wl0 := hts (.methodLink RX0 57 Lib.Math.min.name) (by decide +kernel)
  have wl1 := hts (.static Lib.Math.min.name) (by decide +kernel)
  have wl2 := hts (.initialized "java/lang/Math") (by decide +kernel)
  have wl3 := hts (.code Lib.Math.min.name Lib.Math.min.code 2 (some .int)) (by decide +kernel)
  have hl := lv_entry ([.ref (bv_a G (11 + j)), .int p0]) (n := 2) (Nat.le_of_ble_eq_true rfl)
  rw [lg_entry_eq]
  generalize (lg_sl ([.ref (bv_a G (11 + j)), .int p0]) ++ List.replicate (2 - (lg_sl ([.ref (bv_a G (11 + j)), .int p0])).length) Slot.unset).toArray = ls at hl ⊢
  have hl : lv_has ls 2 [(0, .ref (bv_a G (11 + j))), (1, .int p0)] := hl
  refine lv_iconst (v := 3) hx hb dX0_noticesOn_0 (by decide) ?_
  refine lv_aload_n hx hb dX0_noticesOn_1 rfl (lv_at hl 0 rfl) ?_
  refine lv_iload_n hx hb dX0_noticesOn_2 rfl (lv_at hl 1 rfl) ?_
  refine bv_ci (va_runV (As := [.int p0]) (rest := [.int 3]) ⟨hx, hb, hml, hown, hts⟩ (c_X0_overdueOn l G S M z j p0 (by omega)) (cwV 1 hts gX0_noticesOn_X0_overdueOn rfl rfl rfl (by decide +kernel) ⟨Nat.le_of_ble_eq_true rfl, Nat.le_of_ble_eq_true rfl⟩) (bv_preV hz hP hK hE hS (ci := 0) (bv_cB G _ _ _ (hj)) rfl rfl) rfl rfl hl.1 rfl (lv_room (Nat.le_of_ble_eq_true rfl)) dX0_noticesOn_3 ⟨Nat.le_of_ble_eq_true rfl, Nat.le_of_ble_eq_true rfl⟩) hS (fun H locs hP hS => ?_)
  refine lv_bipush (v := 30) hx hb dX0_noticesOn_6 (by decide) ?_
  refine lv_idiv hx hb dX0_noticesOn_8 (by decide) ?_
  refine va_mmin hx hb (hml.trans hl.1.symm) hown wl0 wl1 wl2 wl3 (Nat.le_of_ble_eq_true rfl) (Nat.le_of_ble_eq_true rfl) (Nat.le_of_ble_eq_true rfl) (Nat.le_of_ble_eq_true rfl) dX0_noticesOn_9 ?_
  exact bv_iret hx hb hr hlocks hS (Nat.le_of_ble_eq_true rfl) (Nat.le_of_ble_eq_true rfl) dX0_noticesOn_12 (by rfl) hP
set_option maxHeartbeats 4000000 in
set_option maxRecDepth 100000 in
theorem c_X0_hasProxyOn (l : Launch) (G : bv_G) (S M : bv_X) (z : bv_Z) (j : Nat) (p0 : Int32) (p1 : Int32) (c5 : Nat) (hj : j < 8) (hc5 : c5 ≤ 5) (ec5 : S 15 j = nI c5) : bv_M l yX0_hasProxyOn wsX0_hasProxyOn ({ frames := 0, cells := 0, slots := 0, locals := 0 }) [.ref (bv_a G (11 + j)), .int p0, .int p1] G S M z (bI (bv_px (S (16 + j)) (S (24 + j)) (S (32 + j)) p1 p0 c5 = true)) S M z := by
  refine Met.ofW (cc := cX0_hasProxyOn) (maxL := 4) (ret := (some .boolean)) (by decide) rfl ?_
  intro p e s m args below meth c s₁ B hml hv
  obtain ⟨rfl, hz, hP, hK, hE⟩ := hv
  have hx := B.exec
  have hb := B.bytes
  have hr := B.returns
  have hts := atoms_spec (ws := wsX0_hasProxyOn) B.pre
  have hown : s.vm.findClass RX0 = some m.cls := findClass_of_methodNamed B.named
  have hlocks := B.notSynchronized
  have hS : va_S (bv_A G) s.heap s.heap [] := va_S.rf
  have wl0 := hts (.fieldLink RX0 31 "BoxVault$Box" "proxyCount" "I") (by decide +kernel)
  have wl1 := hts (.fieldLink RX0 34 "BoxVault$Box" "proxyPerson" "[I") (by decide +kernel)
  have wl2 := hts (.fieldLink RX0 38 "BoxVault$Box" "proxyFirst" "[I") (by decide +kernel)
  have wl3 := hts (.fieldLink RX0 41 "BoxVault$Box" "proxyLast" "[I") (by decide +kernel)
  have hin0 : ∀ w ∈ wsX00, w ∈ wsX0_hasProxyOn := (fun w h => List.mem_cons_of_mem _ (List.mem_append_right _ h))
  have hl := lv_entry ([.ref (bv_a G (11 + j)), .int p0, .int p1]) (n := 4) (Nat.le_of_ble_eq_true rfl)
  rw [lg_entry_eq]
  generalize (lg_sl ([.ref (bv_a G (11 + j)), .int p0, .int p1]) ++ List.replicate (4 - (lg_sl ([.ref (bv_a G (11 + j)), .int p0, .int p1])).length) Slot.unset).toArray = ls at hl ⊢
  have hl : lv_has ls 4 [(0, .ref (bv_a G (11 + j))), (1, .int p0), (2, .int p1)] := hl
  refine lv_iconst (v := 0) hx hb dX0_hasProxyOn_0 (by decide) ?_
  refine lv_istore_n (lv' := [(3, .int 0), (0, .ref (bv_a G (11 + j))), (1, .int p0), (2, .int p1)]) hx hb dX0_hasProxyOn_1 rfl hl (by decide) rfl (fun ls hl => ?_)
  refine bv_loop (G := G) (z := z) (nL := 4) (head := 2) c5 (fun i => S) (fun i => M) (fun i => [(0, .ref (bv_a G (11 + j))), (1, .int p0), (2, .int p1), (3, .int (nI i))]) (fun i => bv_px (S (16 + j)) (S (24 + j)) (S (32 + j)) p1 p0 i = false) (fun i hi hv ih H locs ls hP hS hl => ?_) (rfl) _ _ _ hP hS (lv_sub hl [1, 2, 3, 0] rfl)
  have hP : bv_H G S M z H := hP
  have hl : lv_has ls 4 [(0, .ref (bv_a G (11 + j))), (1, .int p0), (2, .int p1), (3, .int (nI i))] := hl
  refine lv_iload_n hx hb dX0_hasProxyOn_2 rfl (lv_at hl 3 rfl) ?_
  refine lv_aload_n hx hb dX0_hasProxyOn_3 rfl (lv_at hl 0 rfl) ?_
  refine bv_get_f (ci := 0) (C := RX0) (T := TX0) (N := 10) hx hb hts hin0 hown hK hP (bv_cB G _ _ _ (hj)) rfl 6 (by decide) wl0 rfl rfl dX0_hasProxyOn_4 ?_
  refine lv_icmp_ge (tgt := 53) hx hb dX0_hasProxyOn_7 (by decide) (fun c_1 => ?_) (fun c_1 => ?_)
  · refine lv_iconst (v := 0) hx hb dX0_hasProxyOn_53 (by decide) ?_
    exact bv_zret hx hb hr hlocks (rfl) hS (Nat.le_of_ble_eq_true rfl) (Nat.le_of_ble_eq_true rfl) dX0_hasProxyOn_54 (bI_f (by first | exact bv_px_le (n := i + 1) (by rw [bv_px_s, hv, Bool.false_or]; exact decide_eq_true ⟨by assumption, by assumption, by assumption⟩) (by omega) | (intro h; rw [← bv_eq_of ec5 (by omega) hi (by assumption), hv] at h; exact Bool.noConfusion h))).symm hP
  · have hlt : i < c5 := bv_lt_of ec5 (by omega) hi c_1
    refine lv_iload_n hx hb dX0_hasProxyOn_10 rfl (lv_at hl 3 rfl) ?_
    refine lv_iconst (v := 5) hx hb dX0_hasProxyOn_11 (by decide) ?_
    refine lv_icmp_ge (tgt := 53) hx hb dX0_hasProxyOn_12 (by decide) (fun c_2 => ?_) (fun c_2 => ?_)
    · exact absurd c_2 (nI_ge (a := i) (b := 5) (by omega) (by decide))
    · refine lv_aload_n hx hb dX0_hasProxyOn_15 rfl (lv_at hl 0 rfl) ?_
      refine bv_get_f (ci := 0) (C := RX0) (T := TX0) (N := 10) hx hb hts hin0 hown hK hP (bv_cB G _ _ _ (hj)) rfl 7 (by decide) wl1 rfl rfl dX0_hasProxyOn_16 ?_
      refine lv_iload_n hx hb dX0_hasProxyOn_19 rfl (lv_at hl 3 rfl) ?_
      refine bv_iald hx hb hK hP (19 + j) (bv_cP19 G _ _ _ (hj)) i (rfl) (by omega) (by decide) dX0_hasProxyOn_20 ?_
      refine lv_iload_n hx hb dX0_hasProxyOn_21 rfl (lv_at hl 2 rfl) ?_
      refine lv_icmp_ne (tgt := 47) hx hb dX0_hasProxyOn_22 (by decide) (fun c_3 => ?_) (fun c_3 => ?_)
      · refine lv_iinc (v := nI (i + 1)) (lv' := [(3, .int (nI (i + 1))), (0, .ref (bv_a G (11 + j))), (1, .int p0), (2, .int p1)]) hx hb dX0_hasProxyOn_47 hl (k := 3) rfl (nI_1 _) (by decide) rfl (fun ls hl => ?_)
        refine lv_goto (tgt := 2) hx hb dX0_hasProxyOn_50 (by decide) ?_
        exact ih (by omega) (by rw [bv_px_s, hv, Bool.false_or]; first | exact decide_eq_false (fun h => absurd h.1 (by assumption)) | exact decide_eq_false (fun h => h.2.1 (by assumption)) | exact decide_eq_false (fun h => h.2.2 (by assumption))) _ _ _ hP hS (lv_sub hl [1, 2, 3, 0] rfl)
      · refine lv_aload_n hx hb dX0_hasProxyOn_25 rfl (lv_at hl 0 rfl) ?_
        refine bv_get_f (ci := 0) (C := RX0) (T := TX0) (N := 10) hx hb hts hin0 hown hK hP (bv_cB G _ _ _ (hj)) rfl 8 (by decide) wl2 rfl rfl dX0_hasProxyOn_26 ?_
        refine lv_iload_n hx hb dX0_hasProxyOn_29 rfl (lv_at hl 3 rfl) ?_
        refine bv_iald hx hb hK hP (27 + j) (bv_cP27 G _ _ _ (hj)) i (rfl) (by omega) (by decide) dX0_hasProxyOn_30 ?_
        refine lv_iload_n hx hb dX0_hasProxyOn_31 rfl (lv_at hl 1 rfl) ?_
        refine lv_icmp_gt (tgt := 47) hx hb dX0_hasProxyOn_32 (by decide) (fun c_4 => ?_) (fun c_4 => ?_)
        · refine lv_iinc (v := nI (i + 1)) (lv' := [(3, .int (nI (i + 1))), (0, .ref (bv_a G (11 + j))), (1, .int p0), (2, .int p1)]) hx hb dX0_hasProxyOn_47 hl (k := 3) rfl (nI_1 _) (by decide) rfl (fun ls hl => ?_)
          refine lv_goto (tgt := 2) hx hb dX0_hasProxyOn_50 (by decide) ?_
          exact ih (by omega) (by rw [bv_px_s, hv, Bool.false_or]; first | exact decide_eq_false (fun h => absurd h.1 (by assumption)) | exact decide_eq_false (fun h => h.2.1 (by assumption)) | exact decide_eq_false (fun h => h.2.2 (by assumption))) _ _ _ hP hS (lv_sub hl [1, 2, 3, 0] rfl)
        · refine lv_iload_n hx hb dX0_hasProxyOn_35 rfl (lv_at hl 1 rfl) ?_
          refine lv_aload_n hx hb dX0_hasProxyOn_36 rfl (lv_at hl 0 rfl) ?_
          refine bv_get_f (ci := 0) (C := RX0) (T := TX0) (N := 10) hx hb hts hin0 hown hK hP (bv_cB G _ _ _ (hj)) rfl 9 (by decide) wl3 rfl rfl dX0_hasProxyOn_37 ?_
          refine lv_iload_n hx hb dX0_hasProxyOn_40 rfl (lv_at hl 3 rfl) ?_
          refine bv_iald hx hb hK hP (35 + j) (bv_cP35 G _ _ _ (hj)) i (rfl) (by omega) (by decide) dX0_hasProxyOn_41 ?_
          refine lv_icmp_gt (tgt := 47) hx hb dX0_hasProxyOn_42 (by decide) (fun c_5 => ?_) (fun c_5 => ?_)
          · refine lv_iinc (v := nI (i + 1)) (lv' := [(3, .int (nI (i + 1))), (0, .ref (bv_a G (11 + j))), (1, .int p0), (2, .int p1)]) hx hb dX0_hasProxyOn_47 hl (k := 3) rfl (nI_1 _) (by decide) rfl (fun ls hl => ?_)
            refine lv_goto (tgt := 2) hx hb dX0_hasProxyOn_50 (by decide) ?_
            exact ih (by omega) (by rw [bv_px_s, hv, Bool.false_or]; first | exact decide_eq_false (fun h => absurd h.1 (by assumption)) | exact decide_eq_false (fun h => h.2.1 (by assumption)) | exact decide_eq_false (fun h => h.2.2 (by assumption))) _ _ _ hP hS (lv_sub hl [1, 2, 3, 0] rfl)
          · refine lv_iconst (v := 1) hx hb dX0_hasProxyOn_45 (by decide) ?_
            exact bv_zret hx hb hr hlocks (rfl) hS (Nat.le_of_ble_eq_true rfl) (Nat.le_of_ble_eq_true rfl) dX0_hasProxyOn_46 (bI_t (by first | exact bv_px_le (n := i + 1) (by rw [bv_px_s, hv, Bool.false_or]; exact decide_eq_true ⟨by assumption, by assumption, by assumption⟩) (by omega) | (intro h; rw [← bv_eq_of ec5 (by omega) hi (by assumption), hv] at h; exact Bool.noConfusion h))).symm hP
set_option maxHeartbeats 4000000 in
set_option maxRecDepth 100000 in
theorem c_X0_addProxy (l : Launch) (G : bv_G) (S M : bv_X) (z : bv_Z) (j : Nat) (p0 : Int32) (p1 : Int32) (p2 : Int32) (c5 : Nat) (hj : j < 8) (hc5 : c5 < 5) (ec5 : S 15 j = nI c5) : bv_Mv l yX0_addProxy wsX0_addProxy ({ frames := 0, cells := 0, slots := 0, locals := 0 }) [.ref (bv_a G (11 + j)), .int p0, .int p1, .int p2] G S M z (bv_up (bv_up (bv_up (bv_up S (16 + j) c5 p0) (24 + j) c5 p1) (32 + j) c5 p2) 15 j (S 15 j + 1)) M z := by
  refine Met.ofW (cc := cX0_addProxy) (maxL := 4) (ret := none) (by decide) rfl ?_
  intro p e s m args below meth c s₁ B hml hv
  obtain ⟨rfl, hz, hP, hK, hE⟩ := hv
  have hx := B.exec
  have hb := B.bytes
  have hr := B.returns
  have hts := atoms_spec (ws := wsX0_addProxy) B.pre
  have hown : s.vm.findClass RX0 = some m.cls := findClass_of_methodNamed B.named
  have hlocks := B.notSynchronized
  have hS : va_S (bv_A G) s.heap s.heap [] := va_S.rf
  have wl0 := hts (.fieldLink RX0 31 "BoxVault$Box" "proxyCount" "I") (by decide +kernel)
  have wl1 := hts (.fieldLink RX0 34 "BoxVault$Box" "proxyPerson" "[I") (by decide +kernel)
  have wl2 := hts (.fieldLink RX0 38 "BoxVault$Box" "proxyFirst" "[I") (by decide +kernel)
  have wl3 := hts (.fieldLink RX0 41 "BoxVault$Box" "proxyLast" "[I") (by decide +kernel)
  have hin0 : ∀ w ∈ wsX00, w ∈ wsX0_addProxy := (fun w h => List.mem_cons_of_mem _ (List.mem_append_right _ h))
  have hl := lv_entry ([.ref (bv_a G (11 + j)), .int p0, .int p1, .int p2]) (n := 4) (Nat.le_of_ble_eq_true rfl)
  rw [lg_entry_eq]
  generalize (lg_sl ([.ref (bv_a G (11 + j)), .int p0, .int p1, .int p2]) ++ List.replicate (4 - (lg_sl ([.ref (bv_a G (11 + j)), .int p0, .int p1, .int p2])).length) Slot.unset).toArray = ls at hl ⊢
  have hl : lv_has ls 4 [(0, .ref (bv_a G (11 + j))), (1, .int p0), (2, .int p1), (3, .int p2)] := hl
  refine lv_aload_n hx hb dX0_addProxy_0 rfl (lv_at hl 0 rfl) ?_
  refine bv_get_f (ci := 0) (C := RX0) (T := TX0) (N := 10) hx hb hts hin0 hown hK hP (bv_cB G _ _ _ (hj)) rfl 6 (by decide) wl0 rfl rfl dX0_addProxy_1 ?_
  refine lv_if_lt (tgt := 15) hx hb dX0_addProxy_4 (by decide) (fun c_1 => ?_) (fun c_1 => ?_)
  · exact absurd c_1 (by rw [ec5]; exact nI_pos (by omega))
  · refine lv_aload_n hx hb dX0_addProxy_7 rfl (lv_at hl 0 rfl) ?_
    refine bv_get_f (ci := 0) (C := RX0) (T := TX0) (N := 10) hx hb hts hin0 hown hK hP (bv_cB G _ _ _ (hj)) rfl 6 (by decide) wl0 rfl rfl dX0_addProxy_8 ?_
    refine lv_iconst (v := 5) hx hb dX0_addProxy_11 (by decide) ?_
    refine lv_icmp_lt (tgt := 16) hx hb dX0_addProxy_12 (by decide) (fun c_2 => ?_) (fun c_2 => ?_)
    · refine lv_aload_n hx hb dX0_addProxy_16 rfl (lv_at hl 0 rfl) ?_
      refine bv_get_f (ci := 0) (C := RX0) (T := TX0) (N := 10) hx hb hts hin0 hown hK hP (bv_cB G _ _ _ (hj)) rfl 7 (by decide) wl1 rfl rfl dX0_addProxy_17 ?_
      refine lv_aload_n hx hb dX0_addProxy_20 rfl (lv_at hl 0 rfl) ?_
      refine bv_get_f (ci := 0) (C := RX0) (T := TX0) (N := 10) hx hb hts hin0 hown hK hP (bv_cB G _ _ _ (hj)) rfl 6 (by decide) wl0 rfl rfl dX0_addProxy_21 ?_
      refine lv_iload_n hx hb dX0_addProxy_24 rfl (lv_at hl 1 rfl) ?_
      refine bv_iast hx hb hK hP hS (19 + j) (bv_cP19 G _ _ _ (hj) ) c5 (ec5) (by omega) (by decide) (bv_sP19 G _ _ _ (hj) _ _) dX0_addProxy_25 (fun H locs hP hS => ?_)
      refine lv_aload_n hx hb dX0_addProxy_26 rfl (lv_at hl 0 rfl) ?_
      refine bv_get_f (ci := 0) (C := RX0) (T := TX0) (N := 10) hx hb hts hin0 hown hK hP (bv_cB G _ _ _ (hj)) rfl 8 (by decide) wl2 rfl rfl dX0_addProxy_27 ?_
      refine lv_aload_n hx hb dX0_addProxy_30 rfl (lv_at hl 0 rfl) ?_
      refine bv_get_f (ci := 0) (C := RX0) (T := TX0) (N := 10) hx hb hts hin0 hown hK hP (bv_cB G _ _ _ (hj)) rfl 6 (by decide) wl0 rfl rfl dX0_addProxy_31 ?_
      refine lv_iload_n hx hb dX0_addProxy_34 rfl (lv_at hl 2 rfl) ?_
      refine bv_iast hx hb hK hP hS (27 + j) (bv_cP27 G _ _ _ (hj) ) c5 (by rw [bv_up_o _ (by omega)]; exact ec5) (by omega) (by decide) (bv_sP27 G _ _ _ (hj) _ _) dX0_addProxy_35 (fun H locs hP hS => ?_)
      refine lv_aload_n hx hb dX0_addProxy_36 rfl (lv_at hl 0 rfl) ?_
      refine bv_get_f (ci := 0) (C := RX0) (T := TX0) (N := 10) hx hb hts hin0 hown hK hP (bv_cB G _ _ _ (hj)) rfl 9 (by decide) wl3 rfl rfl dX0_addProxy_37 ?_
      refine lv_aload_n hx hb dX0_addProxy_40 rfl (lv_at hl 0 rfl) ?_
      refine bv_get_f (ci := 0) (C := RX0) (T := TX0) (N := 10) hx hb hts hin0 hown hK hP (bv_cB G _ _ _ (hj)) rfl 6 (by decide) wl0 rfl rfl dX0_addProxy_41 ?_
      refine lv_iload_n hx hb dX0_addProxy_44 rfl (lv_at hl 3 rfl) ?_
      refine bv_iast hx hb hK hP hS (35 + j) (bv_cP35 G _ _ _ (hj) ) c5 (by rw [bv_up_o _ (by omega), bv_up_o _ (by omega)]; exact ec5) (by omega) (by decide) (bv_sP35 G _ _ _ (hj) _ _) dX0_addProxy_45 (fun H locs hP hS => ?_)
      refine lv_aload_n hx hb dX0_addProxy_46 rfl (lv_at hl 0 rfl) ?_
      refine lv_dup hx hb dX0_addProxy_47 rfl ?_
      refine bv_get_f (ci := 0) (C := RX0) (T := TX0) (N := 10) hx hb hts hin0 hown hK hP (bv_cB G _ _ _ (hj)) rfl 6 (by decide) wl0 rfl rfl dX0_addProxy_48 ?_
      refine lv_iconst (v := 1) hx hb dX0_addProxy_51 (by decide) ?_
      refine lv_iadd hx hb dX0_addProxy_52 ?_
      refine bv_put_f (ci := 0) (C := RX0) (T := TX0) (N := 10) (ty := .int) hx hb hts hin0 tyX0 tyX0_ok nmX0 hown hK hP hS (bv_cB G _ _ _ (hj)) rfl 6 (by decide) wl0 rfl rfl rfl rfl rfl (Nat.le_of_ble_eq_true rfl) rfl (bv_sB15 G _ _ _ (hj) _) dX0_addProxy_53 (fun H locs hP hS => ?_)
      have hW : bv_H G (bv_up (bv_up (bv_up (bv_up S (16 + j) c5 p0) (24 + j) c5 p1) (32 + j) c5 p2) 15 j (S 15 j + 1)) M z H := by
        have e : bv_up (bv_up (bv_up S (16 + j) c5 p0) (24 + j) c5 p1) (32 + j) c5 p2 15 j = S 15 j := by rw [bv_up_o _ (by omega), bv_up_o _ (by omega), bv_up_o _ (by omega)]
        rw [← e]
        exact hP
      exact bv_vret hx hb hr hlocks hS (Nat.le_of_ble_eq_true rfl) (Nat.le_of_ble_eq_true rfl) dX0_addProxy_56 hW
    · exact absurd (by rw [ec5]; exact nI_lt (b := 5) hc5 (by decide)) c_2
