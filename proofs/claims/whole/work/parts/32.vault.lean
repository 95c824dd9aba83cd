set_option maxHeartbeats 4000000 in
set_option maxRecDepth 100000 in
theorem c_X2_requireRange (l : Launch) (hlt : l.stackTraces = false) (G : bv_G) (S M : bv_X) (z : bv_Z) (p0 : Int32) (p1 : Int32) (p2 : Int32)  : bv_Mxv l yX2_requireRange wsX2_requireRange ({ frames := 6, cells := 1, slots := 6, locals := 82 }) [.int p0, .int p1, .int p2] G S M z (bI (¬ bv_rg p0 p1 p2)) "java/lang/IllegalArgumentException" S M z := by
  refine vx_ofW (cc := cX2_requireRange) (maxL := 3) (ret := none) (by decide) rfl ?_
  intro p e s m args below meth c s₁ B hml hh hv
  obtain ⟨rfl, hz, hP, hK, hE⟩ := hv
  have hx := B.exec
  have hb := B.bytes
  have hr := B.returns
  have hts := atoms_spec (ws := wsX2_requireRange) B.pre
  have hown : s.vm.findClass RX2 = some m.cls := findClass_of_methodNamed B.named
  have hlocks := B.notSynchronized
  have hS : va_S (bv_A G) s.heap s.heap [] := va_S.rf
  have hl := lv_entry ([.int p0, .int p1, .int p2]) (n := 3) (Nat.le_of_ble_eq_true rfl)
  rw [lg_entry_eq]
  generalize (lg_sl ([.int p0, .int p1, .int p2]) ++ List.replicate (3 - (lg_sl ([.int p0, .int p1, .int p2])).length) Slot.unset).toArray = ls at hl ⊢
  have hl : lv_has ls 3 [(0, .int p0), (1, .int p1), (2, .int p2)] := hl
  refine lv_iload_n hx hb dX2_requireRange_0 rfl (lv_at hl 0 rfl) ?_
  refine lv_iload_n hx hb dX2_requireRange_1 rfl (lv_at hl 1 rfl) ?_
  refine lv_icmp_lt (tgt := 10) hx hb dX2_requireRange_2 (by decide) (fun c_1 => ?_) (fun c_1 => ?_)
  · exact bv_throw (cls := "java/lang/IllegalArgumentException") (text := "an argument is out of range") (ik := 94) (is := 197) (ic := 98) hx hb hlt hts hown (by decide) (by decide +kernel) (by decide +kernel) (by decide) (fun w h => List.mem_cons_of_mem _ (List.mem_append_right _ h)) bv_at98_2 bv_at98_g hE hS (by rw [hml]; exact hl.1) dX2_requireRange_10 dX2_requireRange_13 dX2_requireRange_14 dX2_requireRange_16 dX2_requireRange_19 hh (Nat.le_of_ble_eq_true rfl) (Nat.le_of_ble_eq_true rfl) (Nat.le_of_ble_eq_true rfl) (Nat.le_of_ble_eq_true rfl) hlocks (Nat.le_of_ble_eq_true rfl) (Nat.le_of_ble_eq_true rfl) hP (Or.inl ⟨rfl, (by first | exact bI_t (fun h => h.1 (by assumption)) | exact bI_t (fun h => h.2 (bv_nlt (by assumption))) | exact bI_f (fun h => h ⟨by assumption, bv_ln (by assumption)⟩))⟩)
  · refine lv_iload_n hx hb dX2_requireRange_5 rfl (lv_at hl 0 rfl) ?_
    refine lv_iload_n hx hb dX2_requireRange_6 rfl (lv_at hl 2 rfl) ?_
    refine lv_icmp_le (tgt := 20) hx hb dX2_requireRange_7 (by decide) (fun c_2 => ?_) (fun c_2 => ?_)
    · exact bv_xvret hx hb hr hlocks hS (Nat.le_of_ble_eq_true rfl) (Nat.le_of_ble_eq_true rfl) dX2_requireRange_20 (by first | exact bI_t (fun h => h.1 (by assumption)) | exact bI_t (fun h => h.2 (bv_nlt (by assumption))) | exact bI_f (fun h => h ⟨by assumption, bv_ln (by assumption)⟩)) hP
    · exact bv_throw (cls := "java/lang/IllegalArgumentException") (text := "an argument is out of range") (ik := 94) (is := 197) (ic := 98) hx hb hlt hts hown (by decide) (by decide +kernel) (by decide +kernel) (by decide) (fun w h => List.mem_cons_of_mem _ (List.mem_append_right _ h)) bv_at98_2 bv_at98_g hE hS (by rw [hml]; exact hl.1) dX2_requireRange_10 dX2_requireRange_13 dX2_requireRange_14 dX2_requireRange_16 dX2_requireRange_19 hh (Nat.le_of_ble_eq_true rfl) (Nat.le_of_ble_eq_true rfl) (Nat.le_of_ble_eq_true rfl) (Nat.le_of_ble_eq_true rfl) hlocks (Nat.le_of_ble_eq_true rfl) (Nat.le_of_ble_eq_true rfl) hP (Or.inl ⟨rfl, (by first | exact bI_t (fun h => h.1 (by assumption)) | exact bI_t (fun h => h.2 (bv_nlt (by assumption))) | exact bI_f (fun h => h ⟨by assumption, bv_ln (by assumption)⟩))⟩)
set_option maxHeartbeats 4000000 in
set_option maxRecDepth 100000 in
theorem c_X2_requirePerson (l : Launch) (hlt : l.stackTraces = false) (G : bv_G) (S M : bv_X) (z : bv_Z) (p0 : Int32)  : bv_Mxv l yX2_requirePerson wsX2_requirePerson ({ frames := 7, cells := 1, slots := 6, locals := 104 }) [.int p0] G S M z (bI (¬ bv_rg p0 0 15)) "java/lang/IllegalArgumentException" S M z := by
  refine vx_ofW (cc := cX2_requirePerson) (maxL := 1) (ret := none) (by decide) rfl ?_
  intro p e s m args below meth c s₁ B hml hh hv
  obtain ⟨rfl, hz, hP, hK, hE⟩ := hv
  have hx := B.exec
  have hb := B.bytes
  have hr := B.returns
  have hts := atoms_spec (ws := wsX2_requirePerson) B.pre
  have hown : s.vm.findClass RX2 = some m.cls := findClass_of_methodNamed B.named
  have hlocks := B.notSynchronized
  have hS : va_S (bv_A G) s.heap s.heap [] := va_S.rf
  have hl := lv_entry ([.int p0]) (n := 1) (Nat.le_of_ble_eq_true rfl)
  rw [lg_entry_eq]
  generalize (lg_sl ([.int p0]) ++ List.replicate (1 - (lg_sl ([.int p0])).length) Slot.unset).toArray = ls at hl ⊢
  have hl : lv_has ls 1 [(0, .int p0)] := hl
  refine lv_iload_n hx hb dX2_requirePerson_0 rfl (lv_at hl 0 rfl) ?_
  refine lv_iconst (v := 0) hx hb dX2_requirePerson_1 (by decide) ?_
  refine lv_bipush (v := 15) hx hb dX2_requirePerson_2 (by decide) ?_
  refine bv_cxv (vx_runS (As := [.int p0, .int 0, .int 15]) (rest := []) ⟨hx, hb, hml, hown, hts⟩ (c_X2_requireRange l hlt G S M z p0 0 15 ) (va_cwS 3 hts gX2_requirePerson_X2_requireRange rfl rfl rfl (by decide +kernel) ⟨Nat.le_of_ble_eq_true rfl, Nat.le_of_ble_eq_true rfl⟩) (bv_preS hz hP hK hE hS) rfl rfl hl.1 rfl (lv_room (Nat.le_of_ble_eq_true rfl)) dX2_requirePerson_4 ⟨Nat.le_of_ble_eq_true rfl, Nat.le_of_ble_eq_true rfl⟩) hS (bv_xout hh hlocks (Nat.le_of_ble_eq_true rfl) (Nat.le_of_ble_eq_true rfl) (fun k_1 => by rfl)) (fun H locs k_1 hP hS => ?_)
  exact bv_xvret hx hb hr hlocks hS (Nat.le_of_ble_eq_true rfl) (Nat.le_of_ble_eq_true rfl) dX2_requirePerson_7 (by assumption) hP
set_option maxHeartbeats 4000000 in
set_option maxRecDepth 100000 in
theorem c_X2_requireRented (l : Launch) (hlt : l.stackTraces = false) (G : bv_G) (S M : bv_X) (z : bv_Z) (j : Nat) (hj : j < 8) : bv_Mxv l yX2_requireRented wsX2_requireRented ({ frames := 6, cells := 1, slots := 6, locals := 82 }) [.ref (bv_a G (11 + j))] G S M z (bJ (¬ S 9 j = 1)) "java/lang/IllegalArgumentException" S M z := by
  refine vx_ofW (cc := cX2_requireRented) (maxL := 1) (ret := none) (by decide) rfl ?_
  intro p e s m args below meth c s₁ B hml hh hv
  obtain ⟨rfl, hz, hP, hK, hE⟩ := hv
  have hx := B.exec
  have hb := B.bytes
  have hr := B.returns
  have hts := atoms_spec (ws := wsX2_requireRented) B.pre
  have hown : s.vm.findClass RX2 = some m.cls := findClass_of_methodNamed B.named
  have hlocks := B.notSynchronized
  have hS : va_S (bv_A G) s.heap s.heap [] := va_S.rf
  have wl0 := hts (.initialized RX0) (by decide +kernel)
  have wl1 := hts (.instanceMethod yX0_isRented) (by decide +kernel)
  have wl2 := hts (.selects RX0 yX0_isRented yX0_isRented) (by decide +kernel)
  have hl := lv_entry ([.ref (bv_a G (11 + j))]) (n := 1) (Nat.le_of_ble_eq_true rfl)
  rw [lg_entry_eq]
  generalize (lg_sl ([.ref (bv_a G (11 + j))]) ++ List.replicate (1 - (lg_sl ([.ref (bv_a G (11 + j))])).length) Slot.unset).toArray = ls at hl ⊢
  have hl : lv_has ls 1 [(0, .ref (bv_a G (11 + j)))] := hl
  refine lv_aload_n hx hb dX2_requireRented_0 rfl (lv_at hl 0 rfl) ?_
  refine bv_ci (va_runVN (As := []) (rest := []) ⟨hx, hb, hml, hown, hts⟩ (c_X0_isRented l G S M z j (by omega)) ⟨va_cnB (host := "BoxVault") 0 hts gX2_requireRented_X0_isRented_n160 rfl rfl rfl (hE.1 _ (by decide +kernel)) wl0 (by decide +kernel) ⟨Nat.le_of_ble_eq_true rfl, Nat.le_of_ble_eq_true rfl⟩, wl1, wl2⟩ (bv_preV hz hP hK hE hS (ci := 0) (bv_cB G _ _ _ (hj)) rfl rfl) rfl rfl hl.1 rfl (lv_room (Nat.le_of_ble_eq_true rfl)) dX2_requireRented_1 ⟨Nat.le_of_ble_eq_true rfl, Nat.le_of_ble_eq_true rfl⟩) hS (fun H locs hP hS => ?_)
  refine bv_ifneB (tgt := 17) hx hb dX2_requireRented_4 (by decide) (fun c_1 => ?_) (fun c_1 => ?_)
  · exact bv_xvret hx hb hr hlocks hS (Nat.le_of_ble_eq_true rfl) (Nat.le_of_ble_eq_true rfl) dX2_requireRented_17 (by first | exact bJ_t (by assumption) | exact bJ_f (fun h => h (by assumption))) hP
  · exact bv_throw (cls := "java/lang/IllegalStateException") (text := "the box is not rented") (ik := 43) (is := 199) (ic := 47) hx hb hlt hts hown (by decide) (by decide +kernel) (by decide +kernel) (by decide) (fun w h => List.mem_cons_of_mem _ (List.mem_append_right _ h)) bv_at47_2 bv_at47_g hE hS (by rw [hml]; exact hl.1) dX2_requireRented_7 dX2_requireRented_10 dX2_requireRented_11 dX2_requireRented_13 dX2_requireRented_16 hh (Nat.le_of_ble_eq_true rfl) (Nat.le_of_ble_eq_true rfl) (Nat.le_of_ble_eq_true rfl) (Nat.le_of_ble_eq_true rfl) hlocks (Nat.le_of_ble_eq_true rfl) (Nat.le_of_ble_eq_true rfl) hP (Or.inr ⟨rfl, (by first | exact bJ_t (by assumption) | exact bJ_f (fun h => h (by assumption)))⟩)
set_option maxHeartbeats 4000000 in
set_option maxRecDepth 100000 in
theorem c_X2_boxAt (l : Launch) (hlt : l.stackTraces = false) (G : bv_G) (S M : bv_X) (z : bv_Z) (p0 : Int32)  : bv_Mxr l yX2_boxAt wsX2_boxAt ({ frames := 7, cells := 1, slots := 6, locals := 104 }) [.ref (bv_a G 0), .int p0] G S M z (bI (¬ bv_rg p0 0 7)) "java/lang/IllegalArgumentException" (bv_a G (11 + p0.toNatClampNeg)) := by
  refine vx_ofW (cc := cX2_boxAt) (maxL := 2) (ret := (some (.object "BoxVault$Box"))) (by decide) rfl ?_
  intro p e s m args below meth c s₁ B hml hh hv
  obtain ⟨rfl, hz, hP, hK, hE⟩ := hv
  have hx := B.exec
  have hb := B.bytes
  have hr := B.returns
  have hts := atoms_spec (ws := wsX2_boxAt) B.pre
  have hown : s.vm.findClass RX2 = some m.cls := findClass_of_methodNamed B.named
  have hlocks := B.notSynchronized
  have hS : va_S (bv_A G) s.heap s.heap [] := va_S.rf
  have wl0 := hts (.fieldLink RX2 11 "BoxVault" "boxes" "[LBoxVault$Box;") (by decide +kernel)
  have hin2 : ∀ w ∈ wsX20, w ∈ wsX2_boxAt := (fun w h => List.mem_cons_of_mem _ (List.mem_append_left _ (List.mem_append_right _ h)))
  have hl := lv_entry ([.ref (bv_a G 0), .int p0]) (n := 2) (Nat.le_of_ble_eq_true rfl)
  rw [lg_entry_eq]
  generalize (lg_sl ([.ref (bv_a G 0), .int p0]) ++ List.replicate (2 - (lg_sl ([.ref (bv_a G 0), .int p0])).length) Slot.unset).toArray = ls at hl ⊢
  have hl : lv_has ls 2 [(0, .ref (bv_a G 0)), (1, .int p0)] := hl
  refine lv_iload_n hx hb dX2_boxAt_0 rfl (lv_at hl 1 rfl) ?_
  refine lv_iconst (v := 0) hx hb dX2_boxAt_1 (by decide) ?_
  refine lv_bipush (v := 7) hx hb dX2_boxAt_2 (by decide) ?_
  refine bv_cxv (vx_runS (As := [.int p0, .int 0, .int 7]) (rest := []) ⟨hx, hb, hml, hown, hts⟩ (c_X2_requireRange l hlt G S M z p0 0 7 ) (va_cwS 3 hts gX2_boxAt_X2_requireRange rfl rfl rfl (by decide +kernel) ⟨Nat.le_of_ble_eq_true rfl, Nat.le_of_ble_eq_true rfl⟩) (bv_preS hz hP hK hE hS) rfl rfl hl.1 rfl (lv_room (Nat.le_of_ble_eq_true rfl)) dX2_boxAt_4 ⟨Nat.le_of_ble_eq_true rfl, Nat.le_of_ble_eq_true rfl⟩) hS (bv_xout hh hlocks (Nat.le_of_ble_eq_true rfl) (Nat.le_of_ble_eq_true rfl) (fun k_1 => by rfl)) (fun H locs k_1 hP hS => ?_)
  obtain ⟨j, hj, ej⟩ := bv_of8 (Decidable.not_not.mp (bI_0 k_1))
  subst ej
  refine lv_aload_n hx hb dX2_boxAt_7 rfl (lv_at hl 0 rfl) ?_
  refine bv_get_f (ci := 2) (C := RX2) (T := TX2) (N := 6) hx hb hts hin2 hown hK hP (bv_c0 G _ _ _) rfl 0 (by decide) wl0 rfl rfl dX2_boxAt_8 ?_
  refine lv_iload_n hx hb dX2_boxAt_11 rfl (lv_at hl 1 rfl) ?_
  refine bv_aald hx hb hK hP j (rfl) (hj) dX2_boxAt_12 ?_
  exact bv_xaret hx hb hr hlocks hS (Nat.le_of_ble_eq_true rfl) (Nat.le_of_ble_eq_true rfl) dX2_boxAt_13 (by first | assumption | exact bI_f (fun h => h (bv_in8 hj))) (by rw [bv_cl hj (by decide)]) hP
set_option maxHeartbeats 4000000 in
set_option maxRecDepth 100000 in
theorem c_X2_isPerson (l : Launch) (G : bv_G) (S M : bv_X) (z : bv_Z) (p0 : Int32)  : bv_M l yX2_isPerson wsX2_isPerson ({ frames := 0, cells := 0, slots := 0, locals := 0 }) [.int p0] G S M z (bI (¬ p0 < 0 ∧ ¬ 16 ≤ p0)) S M z := by
  refine Met.ofW (cc := cX2_isPerson) (maxL := 1) (ret := (some .boolean)) (by decide) rfl ?_
  intro p e s m args below meth c s₁ B hml hv
  obtain ⟨rfl, hz, hP, hK, hE⟩ := hv
  have hx := B.exec
  have hb := B.bytes
  have hr := B.returns
  have hts := atoms_spec (ws := wsX2_isPerson) B.pre
  have hown : s.vm.findClass RX2 = some m.cls := findClass_of_methodNamed B.named
  have hlocks := B.notSynchronized
  have hS : va_S (bv_A G) s.heap s.heap [] := va_S.rf
  have hl := lv_entry ([.int p0]) (n := 1) (Nat.le_of_ble_eq_true rfl)
  rw [lg_entry_eq]
  generalize (lg_sl ([.int p0]) ++ List.replicate (1 - (lg_sl ([.int p0])).length) Slot.unset).toArray = ls at hl ⊢
  have hl : lv_has ls 1 [(0, .int p0)] := hl
  refine lv_iload_n hx hb dX2_isPerson_0 rfl (lv_at hl 0 rfl) ?_
  refine lv_if_lt (tgt := 14) hx hb dX2_isPerson_1 (by decide) (fun c_1 => ?_) (fun c_1 => ?_)
  · refine lv_iconst (v := 0) hx hb dX2_isPerson_14 (by decide) ?_
    exact bv_zret hx hb hr hlocks (rfl) hS (Nat.le_of_ble_eq_true rfl) (Nat.le_of_ble_eq_true rfl) dX2_isPerson_15 (bI_f (by first | exact ⟨by assumption, by assumption⟩ | (intro h; exact h.1 (by assumption)) | (intro h; exact h.2 (by assumption)))).symm hP
  · refine lv_iload_n hx hb dX2_isPerson_4 rfl (lv_at hl 0 rfl) ?_
    refine lv_bipush (v := 16) hx hb dX2_isPerson_5 (by decide) ?_
    refine lv_icmp_ge (tgt := 14) hx hb dX2_isPerson_7 (by decide) (fun c_2 => ?_) (fun c_2 => ?_)
    · refine lv_iconst (v := 0) hx hb dX2_isPerson_14 (by decide) ?_
      exact bv_zret hx hb hr hlocks (rfl) hS (Nat.le_of_ble_eq_true rfl) (Nat.le_of_ble_eq_true rfl) dX2_isPerson_15 (bI_f (by first | exact ⟨by assumption, by assumption⟩ | (intro h; exact h.1 (by assumption)) | (intro h; exact h.2 (by assumption)))).symm hP
    · refine lv_iconst (v := 1) hx hb dX2_isPerson_10 (by decide) ?_
      refine lv_goto (tgt := 15) hx hb dX2_isPerson_11 (by decide) ?_
      exact bv_zret hx hb hr hlocks (rfl) hS (Nat.le_of_ble_eq_true rfl) (Nat.le_of_ble_eq_true rfl) dX2_isPerson_15 (bI_t (by first | exact ⟨by assumption, by assumption⟩ | (intro h; exact h.1 (by assumption)) | (intro h; exact h.2 (by assumption)))).symm hP
set_option maxHeartbeats 4000000 in
set_option maxRecDepth 100000 in
theorem c_X2_isAlive (l : Launch) (G : bv_G) (S M : bv_X) (z : bv_Z) (q : Nat) (hq : q < 16) : bv_M l yX2_isAlive wsX2_isAlive ({ frames := 1, cells := 0, slots := 0, locals := 20 }) [.ref (bv_a G 0), .int (nI q)] G S M z (bI (S 1 q = 0)) S M z := by
  refine Met.ofW (cc := cX2_isAlive) (maxL := 2) (ret := (some .boolean)) (by decide) rfl ?_
  intro p e s m args below meth c s₁ B hml hv
  obtain ⟨rfl, hz, hP, hK, hE⟩ := hv
  have hx := B.exec
  have hb := B.bytes
  have hr := B.returns
  have hts := atoms_spec (ws := wsX2_isAlive) B.pre
  have hown : s.vm.findClass RX2 = some m.cls := findClass_of_methodNamed B.named
  have hlocks := B.notSynchronized
  have hS : va_S (bv_A G) s.heap s.heap [] := va_S.rf
  have wl0 := hts (.fieldLink RX2 22 "BoxVault" "dead" "[Z") (by decide +kernel)
  have hin2 : ∀ w ∈ wsX20, w ∈ wsX2_isAlive := (fun w h => List.mem_cons_of_mem _ (List.mem_append_right _ h))
  have hl := lv_entry ([.ref (bv_a G 0), .int (nI q)]) (n := 2) (Nat.le_of_ble_eq_true rfl)
  rw [lg_entry_eq]
  generalize (lg_sl ([.ref (bv_a G 0), .int (nI q)]) ++ List.replicate (2 - (lg_sl ([.ref (bv_a G 0), .int (nI q)])).length) Slot.unset).toArray = ls at hl ⊢
  have hl : lv_has ls 2 [(0, .ref (bv_a G 0)), (1, .int (nI q))] := hl
  refine lv_iload_n hx hb dX2_isAlive_0 rfl (lv_at hl 1 rfl) ?_
  refine bv_ci (va_runS (As := [.int (nI q)]) (rest := []) ⟨hx, hb, hml, hown, hts⟩ (c_X2_isPerson l G S M z (nI q) ) (va_cwS 1 hts gX2_isAlive_X2_isPerson rfl rfl rfl (by decide +kernel) ⟨Nat.le_of_ble_eq_true rfl, Nat.le_of_ble_eq_true rfl⟩) (bv_preS hz hP hK hE hS) rfl rfl hl.1 rfl (lv_room (Nat.le_of_ble_eq_true rfl)) dX2_isAlive_1 ⟨Nat.le_of_ble_eq_true rfl, Nat.le_of_ble_eq_true rfl⟩) hS (fun H locs hP hS => ?_)
  refine bv_ifeqB (tgt := 20) hx hb dX2_isAlive_4 (by decide) (fun c_1 => ?_) (fun c_1 => ?_)
  · exact absurd ⟨nI_pos (by omega), nI_ge (a := q) (b := 16) (by omega) (by decide)⟩ c_1
  · refine lv_aload_n hx hb dX2_isAlive_7 rfl (lv_at hl 0 rfl) ?_
    refine bv_get_f (ci := 2) (C := RX2) (T := TX2) (N := 6) hx hb hts hin2 hown hK hP (bv_c0 G _ _ _) rfl 2 (by decide) wl0 rfl rfl dX2_isAlive_8 ?_
    refine lv_iload_n hx hb dX2_isAlive_11 rfl (lv_at hl 1 rfl) ?_
    refine bv_zald hx hb hK hP 3 (bv_c3 G _ _ _) q (rfl) (by omega) (by decide) dX2_isAlive_12 ?_
    refine lv_if_ne (tgt := 20) hx hb dX2_isAlive_13 (by decide) (fun c_2 => ?_) (fun c_2 => ?_)
    · refine lv_iconst (v := 0) hx hb dX2_isAlive_20 (by decide) ?_
      exact bv_zret hx hb hr hlocks (rfl) hS (Nat.le_of_ble_eq_true rfl) (Nat.le_of_ble_eq_true rfl) dX2_isAlive_21 (bI_f (by first | assumption | (intro h; contradiction))).symm hP
    · refine lv_iconst (v := 1) hx hb dX2_isAlive_16 (by decide) ?_
      refine lv_goto (tgt := 21) hx hb dX2_isAlive_17 (by decide) ?_
      exact bv_zret hx hb hr hlocks (rfl) hS (Nat.le_of_ble_eq_true rfl) (Nat.le_of_ble_eq_true rfl) dX2_isAlive_21 (bI_t (by first | assumption | (intro h; contradiction))).symm hP
set_option maxHeartbeats 4000000 in
set_option maxRecDepth 100000 in
theorem c_X2_isHeir (l : Launch) (G : bv_G) (S M : bv_X) (z : bv_Z) (q : Nat) (d0 : Nat) (hq : q < 16) (hd0 : d0 < 16) : bv_M l yX2_isHeir wsX2_isHeir ({ frames := 1, cells := 0, slots := 0, locals := 20 }) [.ref (bv_a G 0), .int (nI q), .int (nI d0)] G S M z (bI (bv_hr S q d0)) S M z := by
  refine Met.ofW (cc := cX2_isHeir) (maxL := 3) (ret := (some .boolean)) (by decide) rfl ?_
  intro p e s m args below meth c s₁ B hml hv
  obtain ⟨rfl, hz, hP, hK, hE⟩ := hv
  have hx := B.exec
  have hb := B.bytes
  have hr := B.returns
  have hts := atoms_spec (ws := wsX2_isHeir) B.pre
  have hown : s.vm.findClass RX2 = some m.cls := findClass_of_methodNamed B.named
  have hlocks := B.notSynchronized
  have hS : va_S (bv_A G) s.heap s.heap [] := va_S.rf
  have wl0 := hts (.fieldLink RX2 26 "BoxVault" "heirs" "[I") (by decide +kernel)
  have hin2 : ∀ w ∈ wsX20, w ∈ wsX2_isHeir := (fun w h => List.mem_cons_of_mem _ (List.mem_append_right _ h))
  have hl := lv_entry ([.ref (bv_a G 0), .int (nI q), .int (nI d0)]) (n := 3) (Nat.le_of_ble_eq_true rfl)
  rw [lg_entry_eq]
  generalize (lg_sl ([.ref (bv_a G 0), .int (nI q), .int (nI d0)]) ++ List.replicate (3 - (lg_sl ([.ref (bv_a G 0), .int (nI q), .int (nI d0)])).length) Slot.unset).toArray = ls at hl ⊢
  have hl : lv_has ls 3 [(0, .ref (bv_a G 0)), (1, .int (nI q)), (2, .int (nI d0))] := hl
  refine lv_iload_n hx hb dX2_isHeir_0 rfl (lv_at hl 1 rfl) ?_
  refine bv_ci (va_runS (As := [.int (nI q)]) (rest := []) ⟨hx, hb, hml, hown, hts⟩ (c_X2_isPerson l G S M z (nI q) ) (va_cwS 1 hts gX2_isHeir_X2_isPerson rfl rfl rfl (by decide +kernel) ⟨Nat.le_of_ble_eq_true rfl, Nat.le_of_ble_eq_true rfl⟩) (bv_preS hz hP hK hE hS) rfl rfl hl.1 rfl (lv_room (Nat.le_of_ble_eq_true rfl)) dX2_isHeir_1 ⟨Nat.le_of_ble_eq_true rfl, Nat.le_of_ble_eq_true rfl⟩) hS (fun H locs hP hS => ?_)
  refine bv_ifeqB (tgt := 32) hx hb dX2_isHeir_4 (by decide) (fun c_1 => ?_) (fun c_1 => ?_)
  · exact absurd ⟨nI_pos (by omega), nI_ge (a := q) (b := 16) (by omega) (by decide)⟩ c_1
  · refine lv_iload_n hx hb dX2_isHeir_7 rfl (lv_at hl 2 rfl) ?_
    refine bv_ci (va_runS (As := [.int (nI d0)]) (rest := []) ⟨hx, hb, hml, hown, hts⟩ (c_X2_isPerson l G S M z (nI d0) ) (va_cwS 1 hts gX2_isHeir_X2_isPerson rfl rfl rfl (by decide +kernel) ⟨Nat.le_of_ble_eq_true rfl, Nat.le_of_ble_eq_true rfl⟩) (bv_preS hz hP hK hE hS) rfl rfl hl.1 rfl (lv_room (Nat.le_of_ble_eq_true rfl)) dX2_isHeir_8 ⟨Nat.le_of_ble_eq_true rfl, Nat.le_of_ble_eq_true rfl⟩) hS (fun H locs hP hS => ?_)
    refine bv_ifeqB (tgt := 32) hx hb dX2_isHeir_11 (by decide) (fun c_2 => ?_) (fun c_2 => ?_)
    · exact absurd ⟨nI_pos (by omega), nI_ge (a := d0) (b := 16) (by omega) (by decide)⟩ c_2
    · refine lv_aload_n hx hb dX2_isHeir_14 rfl (lv_at hl 0 rfl) ?_
      refine bv_get_f (ci := 2) (C := RX2) (T := TX2) (N := 6) hx hb hts hin2 hown hK hP (bv_c0 G _ _ _) rfl 3 (by decide) wl0 rfl rfl dX2_isHeir_15 ?_
      refine lv_iload_n hx hb dX2_isHeir_18 rfl (lv_at hl 2 rfl) ?_
      refine bv_iald hx hb hK hP 4 (bv_c4 G _ _ _) d0 (rfl) (by omega) (by decide) dX2_isHeir_19 ?_
      refine lv_iload_n hx hb dX2_isHeir_20 rfl (lv_at hl 1 rfl) ?_
      refine lv_ishr hx hb dX2_isHeir_21 ?_
      refine lv_iconst (v := 1) hx hb dX2_isHeir_22 (by decide) ?_
      refine lv_iand hx hb dX2_isHeir_23 ?_
      refine lv_iconst (v := 1) hx hb dX2_isHeir_24 (by decide) ?_
      refine lv_icmp_ne (tgt := 32) hx hb dX2_isHeir_25 (by decide) (fun c_3 => ?_) (fun c_3 => ?_)
      · refine lv_iconst (v := 0) hx hb dX2_isHeir_32 (by decide) ?_
        exact bv_zret hx hb hr hlocks (rfl) hS (Nat.le_of_ble_eq_true rfl) (Nat.le_of_ble_eq_true rfl) dX2_isHeir_33 (bI_f (by first | assumption | (intro h; contradiction))).symm hP
      · refine lv_iconst (v := 1) hx hb dX2_isHeir_28 (by decide) ?_
        refine lv_goto (tgt := 33) hx hb dX2_isHeir_29 (by decide) ?_
        exact bv_zret hx hb hr hlocks (rfl) hS (Nat.le_of_ble_eq_true rfl) (Nat.le_of_ble_eq_true rfl) dX2_isHeir_33 (bI_t (by first | assumption | (intro h; contradiction))).symm hP
set_option maxHeartbeats 4000000 in
set_option maxRecDepth 100000 in
theorem c_X2_isHeirOfDead (l : Launch) (G : bv_G) (S M : bv_X) (z : bv_Z) (q : Nat) (d0 : Nat) (hq : q < 16) (hd0 : d0 < 16) : bv_M l yX2_isHeirOfDead wsX2_isHeirOfDead ({ frames := 2, cells := 0, slots := 0, locals := 42 }) [.ref (bv_a G 0), .int (nI q), .int (nI d0)] G S M z (bI (¬ S 1 d0 = 0 ∧ bv_hr S q d0)) S M z := by
  refine Met.ofW (cc := cX2_isHeirOfDead) (maxL := 3) (ret := (some .boolean)) (by decide) rfl ?_
  intro p e s m args below meth c s₁ B hml hv
  obtain ⟨rfl, hz, hP, hK, hE⟩ := hv
  have hx := B.exec
  have hb := B.bytes
  have hr := B.returns
  have hts := atoms_spec (ws := wsX2_isHeirOfDead) B.pre
  have hown : s.vm.findClass RX2 = some m.cls := findClass_of_methodNamed B.named
  have hlocks := B.notSynchronized
  have hS : va_S (bv_A G) s.heap s.heap [] := va_S.rf
  have hl := lv_entry ([.ref (bv_a G 0), .int (nI q), .int (nI d0)]) (n := 3) (Nat.le_of_ble_eq_true rfl)
  rw [lg_entry_eq]
  generalize (lg_sl ([.ref (bv_a G 0), .int (nI q), .int (nI d0)]) ++ List.replicate (3 - (lg_sl ([.ref (bv_a G 0), .int (nI q), .int (nI d0)])).length) Slot.unset).toArray = ls at hl ⊢
  have hl : lv_has ls 3 [(0, .ref (bv_a G 0)), (1, .int (nI q)), (2, .int (nI d0))] := hl
  refine lv_aload_n hx hb dX2_isHeirOfDead_0 rfl (lv_at hl 0 rfl) ?_
  refine lv_iload_n hx hb dX2_isHeirOfDead_1 rfl (lv_at hl 2 rfl) ?_
  refine bv_ci (va_runV (As := [.int (nI d0)]) (rest := []) ⟨hx, hb, hml, hown, hts⟩ (c_X2_isAlive l G S M z d0 (by omega)) (cwV 1 hts gX2_isHeirOfDead_X2_isAlive rfl rfl rfl (by decide +kernel) ⟨Nat.le_of_ble_eq_true rfl, Nat.le_of_ble_eq_true rfl⟩) (bv_preV hz hP hK hE hS (ci := 2) (bv_c0 G _ _ _) rfl rfl) rfl rfl hl.1 rfl (lv_room (Nat.le_of_ble_eq_true rfl)) dX2_isHeirOfDead_2 ⟨Nat.le_of_ble_eq_true rfl, Nat.le_of_ble_eq_true rfl⟩) hS (fun H locs hP hS => ?_)
  refine bv_ifneB (tgt := 21) hx hb dX2_isHeirOfDead_5 (by decide) (fun c_1 => ?_) (fun c_1 => ?_)
  · refine lv_iconst (v := 0) hx hb dX2_isHeirOfDead_21 (by decide) ?_
    exact bv_zret hx hb hr hlocks (rfl) hS (Nat.le_of_ble_eq_true rfl) (Nat.le_of_ble_eq_true rfl) dX2_isHeirOfDead_22 (bI_f (by first | exact ⟨by assumption, by assumption⟩ | (intro h; exact absurd h.1 (by assumption)) | (intro h; exact h.1 (by assumption)) | (intro h; exact absurd h.2 (by assumption)) | (intro h; exact h.2 (by assumption)))).symm hP
  · refine lv_aload_n hx hb dX2_isHeirOfDead_8 rfl (lv_at hl 0 rfl) ?_
    refine lv_iload_n hx hb dX2_isHeirOfDead_9 rfl (lv_at hl 1 rfl) ?_
    refine lv_iload_n hx hb dX2_isHeirOfDead_10 rfl (lv_at hl 2 rfl) ?_
    refine bv_ci (va_runV (As := [.int (nI q), .int (nI d0)]) (rest := []) ⟨hx, hb, hml, hown, hts⟩ (c_X2_isHeir l G S M z q d0 (by omega) (by omega)) (cwV 2 hts gX2_isHeirOfDead_X2_isHeir rfl rfl rfl (by decide +kernel) ⟨Nat.le_of_ble_eq_true rfl, Nat.le_of_ble_eq_true rfl⟩) (bv_preV hz hP hK hE hS (ci := 2) (bv_c0 G _ _ _) rfl rfl) rfl rfl hl.1 rfl (lv_room (Nat.le_of_ble_eq_true rfl)) dX2_isHeirOfDead_11 ⟨Nat.le_of_ble_eq_true rfl, Nat.le_of_ble_eq_true rfl⟩) hS (fun H locs hP hS => ?_)
    refine bv_ifeqB (tgt := 21) hx hb dX2_isHeirOfDead_14 (by decide) (fun c_2 => ?_) (fun c_2 => ?_)
    · refine lv_iconst (v := 0) hx hb dX2_isHeirOfDead_21 (by decide) ?_
      exact bv_zret hx hb hr hlocks (rfl) hS (Nat.le_of_ble_eq_true rfl) (Nat.le_of_ble_eq_true rfl) dX2_isHeirOfDead_22 (bI_f (by first | exact ⟨by assumption, by assumption⟩ | (intro h; exact absurd h.1 (by assumption)) | (intro h; exact h.1 (by assumption)) | (intro h; exact absurd h.2 (by assumption)) | (intro h; exact h.2 (by assumption)))).symm hP
    · refine lv_iconst (v := 1) hx hb dX2_isHeirOfDead_17 (by decide) ?_
      refine lv_goto (tgt := 22) hx hb dX2_isHeirOfDead_18 (by decide) ?_
      exact bv_zret hx hb hr hlocks (rfl) hS (Nat.le_of_ble_eq_true rfl) (Nat.le_of_ble_eq_true rfl) dX2_isHeirOfDead_22 (bI_t (by first | exact ⟨by assumption, by assumption⟩ | (intro h; exact absurd h.1 (by assumption)) | (intro h; exact h.1 (by assumption)) | (intro h; exact absurd h.2 (by assumption)) | (intro h; exact h.2 (by assumption)))).symm hP
set_option maxHeartbeats 4000000 in
set_option maxRecDepth 100000 in
theorem c_X2_canWitness (l : Launch) (G : bv_G) (S M : bv_X) (z : bv_Z) (j : Nat) (q : Nat) (hj : j < 8) (hq : q < 16) : bv_M l yX2_canWitness wsX2_canWitness ({ frames := 2, cells := 0, slots := 0, locals := 41 }) [.ref (bv_a G 0), .ref (bv_a G (11 + j)), .int (nI q)] G S M z (bI (S 1 q = 0 ∧ ¬ nI q = S 10 j)) S M z := by
  refine Met.ofW (cc := cX2_canWitness) (maxL := 3) (ret := (some .boolean)) (by decide) rfl ?_
  intro p e s m args below meth c s₁ B hml hv
  obtain ⟨rfl, hz, hP, hK, hE⟩ := hv
  have hx := B.exec
  have hb := B.bytes
  have hr := B.returns
  have hts := atoms_spec (ws := wsX2_canWitness) B.pre
  have hown : s.vm.findClass RX2 = some m.cls := findClass_of_methodNamed B.named
  have hlocks := B.notSynchronized
  have hS : va_S (bv_A G) s.heap s.heap [] := va_S.rf
  have hin0 : ∀ w ∈ wsX00, w ∈ wsX2_canWitness := (fun w h => List.mem_cons_of_mem _ (List.mem_append_left _ (List.mem_append_right _ h)))
  have hl := lv_entry ([.ref (bv_a G 0), .ref (bv_a G (11 + j)), .int (nI q)]) (n := 3) (Nat.le_of_ble_eq_true rfl)
  rw [lg_entry_eq]
  generalize (lg_sl ([.ref (bv_a G 0), .ref (bv_a G (11 + j)), .int (nI q)]) ++ List.replicate (3 - (lg_sl ([.ref (bv_a G 0), .ref (bv_a G (11 + j)), .int (nI q)])).length) Slot.unset).toArray = ls at hl ⊢
  have hl : lv_has ls 3 [(0, .ref (bv_a G 0)), (1, .ref (bv_a G (11 + j))), (2, .int (nI q))] := hl
  refine lv_aload_n hx hb dX2_canWitness_0 rfl (lv_at hl 0 rfl) ?_
  refine lv_iload_n hx hb dX2_canWitness_1 rfl (lv_at hl 2 rfl) ?_
  refine bv_ci (va_runV (As := [.int (nI q)]) (rest := []) ⟨hx, hb, hml, hown, hts⟩ (c_X2_isAlive l G S M z q (by omega)) (cwV 1 hts gX2_canWitness_X2_isAlive rfl rfl rfl (by decide +kernel) ⟨Nat.le_of_ble_eq_true rfl, Nat.le_of_ble_eq_true rfl⟩) (bv_preV hz hP hK hE hS (ci := 2) (bv_c0 G _ _ _) rfl rfl) rfl rfl hl.1 rfl (lv_room (Nat.le_of_ble_eq_true rfl)) dX2_canWitness_2 ⟨Nat.le_of_ble_eq_true rfl, Nat.le_of_ble_eq_true rfl⟩) hS (fun H locs hP hS => ?_)
  refine bv_ifeqB (tgt := 20) hx hb dX2_canWitness_5 (by decide) (fun c_1 => ?_) (fun c_1 => ?_)
  · refine lv_iconst (v := 0) hx hb dX2_canWitness_20 (by decide) ?_
    exact bv_zret hx hb hr hlocks (rfl) hS (Nat.le_of_ble_eq_true rfl) (Nat.le_of_ble_eq_true rfl) dX2_canWitness_21 (bI_f (by first | exact ⟨by assumption, by assumption⟩ | (intro h; exact absurd h.1 (by assumption)) | (intro h; exact h.1 (by assumption)) | (intro h; exact absurd h.2 (by assumption)) | (intro h; exact h.2 (by assumption)))).symm hP
  · refine lv_iload_n hx hb dX2_canWitness_8 rfl (lv_at hl 2 rfl) ?_
    refine lv_aload_n hx hb dX2_canWitness_9 rfl (lv_at hl 1 rfl) ?_
    refine bv_get_n (ref := "BoxVault$Box") (host := "BoxVault") (ci := 0) (C := RX0) (T := TX0) (N := 10) hx hb hts hin0 hown hK hP (bv_cB G _ _ _ (hj)) rfl 1 (by decide) hE (by decide +kernel) rfl rfl dX2_canWitness_10 ?_
    refine lv_icmp_eq (tgt := 20) hx hb dX2_canWitness_13 (by decide) (fun c_2 => ?_) (fun c_2 => ?_)
    · refine lv_iconst (v := 0) hx hb dX2_canWitness_20 (by decide) ?_
      exact bv_zret hx hb hr hlocks (rfl) hS (Nat.le_of_ble_eq_true rfl) (Nat.le_of_ble_eq_true rfl) dX2_canWitness_21 (bI_f (by first | exact ⟨by assumption, by assumption⟩ | (intro h; exact absurd h.1 (by assumption)) | (intro h; exact h.1 (by assumption)) | (intro h; exact absurd h.2 (by assumption)) | (intro h; exact h.2 (by assumption)))).symm hP
    · refine lv_iconst (v := 1) hx hb dX2_canWitness_16 (by decide) ?_
      refine lv_goto (tgt := 21) hx hb dX2_canWitness_17 (by decide) ?_
      exact bv_zret hx hb hr hlocks (rfl) hS (Nat.le_of_ble_eq_true rfl) (Nat.le_of_ble_eq_true rfl) dX2_canWitness_21 (bI_t (by first | exact ⟨by assumption, by assumption⟩ | (intro h; exact absurd h.1 (by assumption)) | (intro h; exact h.1 (by assumption)) | (intro h; exact absurd h.2 (by assumption)) | (intro h; exact h.2 (by assumption)))).symm hP
set_option maxHeartbeats 4000000 in
set_option maxRecDepth 100000 in
theorem c_X2_holderAllows (l : Launch) (G : bv_G) (S M : bv_X) (z : bv_Z) (n : Nat) (j : Nat) (q : Nat) (hn : n ≤ 1000) (hI : bv_I n S) (hj : j < 8) (hq : q < 16) (h9 : S 9 j = 1) : bv_M l yX2_holderAllows wsX2_holderAllows ({ frames := 3, cells := 0, slots := 0, locals := 55 }) [.ref (bv_a G 0), .ref (bv_a G (11 + j)), .int (nI q)] G (bv_vw S) M z (bI (bv_nt S j = 0 ∧ (nI q = S 10 j ∨ bv_prx S j q = true))) (bv_vw S) M z := by
  refine Met.ofW (cc := cX2_holderAllows) (maxL := 3) (ret := (some .boolean)) (by decide) rfl ?_
  intro p e s m args below meth c s₁ B hml hv
  obtain ⟨rfl, hz, hP, hK, hE⟩ := hv
  have hx := B.exec
  have hb := B.bytes
  have hr := B.returns
  have hts := atoms_spec (ws := wsX2_holderAllows) B.pre
  have hown : s.vm.findClass RX2 = some m.cls := findClass_of_methodNamed B.named
  have hlocks := B.notSynchronized
  have hS : va_S (bv_A G) s.heap s.heap [] := va_S.rf
  have wl0 := hts (.fieldLink RX2 33 "BoxVault" "today" "I") (by decide +kernel)
  have wl1 := hts (.initialized RX0) (by decide +kernel)
  have wl2 := hts (.instanceMethod yX0_noticesOn) (by decide +kernel)
  have wl3 := hts (.selects RX0 yX0_noticesOn yX0_noticesOn) (by decide +kernel)
  have wl4 := hts (.instanceMethod yX0_hasProxyOn) (by decide +kernel)
  have wl5 := hts (.selects RX0 yX0_hasProxyOn yX0_hasProxyOn) (by decide +kernel)
  have hin0 : ∀ w ∈ wsX00, w ∈ wsX2_holderAllows := (fun w h => List.mem_cons_of_mem _ (List.mem_append_right _ h))
  have hin2 : ∀ w ∈ wsX20, w ∈ wsX2_holderAllows := (fun w h => List.mem_cons_of_mem _ (List.mem_append_left _ (List.mem_append_right _ h)))
  have hl := lv_entry ([.ref (bv_a G 0), .ref (bv_a G (11 + j)), .int (nI q)]) (n := 3) (Nat.le_of_ble_eq_true rfl)
  rw [lg_entry_eq]
  generalize (lg_sl ([.ref (bv_a G 0), .ref (bv_a G (11 + j)), .int (nI q)]) ++ List.replicate (3 - (lg_sl ([.ref (bv_a G 0), .ref (bv_a G (11 + j)), .int (nI q)])).length) Slot.unset).toArray = ls at hl ⊢
  have hl : lv_has ls 3 [(0, .ref (bv_a G 0)), (1, .ref (bv_a G (11 + j))), (2, .int (nI q))] := hl
  obtain ⟨c5, hc5, ec5⟩ := bv_I_px hI hj
  refine lv_aload_n hx hb dX2_holderAllows_0 rfl (lv_at hl 1 rfl) ?_
  refine lv_aload_n hx hb dX2_holderAllows_1 rfl (lv_at hl 0 rfl) ?_
  refine bv_get_f (ci := 2) (C := RX2) (T := TX2) (N := 6) hx hb hts hin2 hown hK hP (bv_c0 G _ _ _) rfl 5 (by decide) wl0 rfl rfl dX2_holderAllows_2 ?_
  refine bv_ci (va_runVN (As := [.int (S 0 0)]) (rest := []) ⟨hx, hb, hml, hown, hts⟩ (c_X0_noticesOn l G (bv_vw S) M z j (S 0 0) (by omega)) ⟨va_cnB (host := "BoxVault") 1 hts gX2_holderAllows_X0_noticesOn_n99 rfl rfl rfl (hE.1 _ (by decide +kernel)) wl1 (by decide +kernel) ⟨Nat.le_of_ble_eq_true rfl, Nat.le_of_ble_eq_true rfl⟩, wl2, wl3⟩ (bv_preV hz hP hK hE hS (ci := 0) (bv_cB G _ _ _ (hj)) rfl rfl) rfl rfl hl.1 rfl (lv_room (Nat.le_of_ble_eq_true rfl)) dX2_holderAllows_5 ⟨Nat.le_of_ble_eq_true rfl, Nat.le_of_ble_eq_true rfl⟩) hS (fun H locs hP hS => ?_)
  refine bv_eqi (y := bv_nt S j) (bv_I_vn hI hn hj h9) ?_
  refine lv_if_ne (tgt := 35) hx hb dX2_holderAllows_8 (by decide) (fun c_1 => ?_) (fun c_1 => ?_)
  · have c_1 : ¬ (bv_nt S j) = 0 := c_1
    refine lv_iconst (v := 0) hx hb dX2_holderAllows_35 (by decide) ?_
    exact bv_zret hx hb hr hlocks (rfl) hS (Nat.le_of_ble_eq_true rfl) (Nat.le_of_ble_eq_true rfl) dX2_holderAllows_36 (bI_f (by first | exact ⟨by assumption, Or.inl (by assumption)⟩ | exact ⟨by assumption, Or.inr (by assumption)⟩ | (intro h; exact absurd h.1 (by assumption)) | (intro h; exact h.2.elim (fun h => absurd h (by assumption)) (fun h => absurd h (by assumption))))).symm hP
  · have c_1 : (bv_nt S j) = 0 := c_1
    refine lv_iload_n hx hb dX2_holderAllows_11 rfl (lv_at hl 2 rfl) ?_
    refine lv_aload_n hx hb dX2_holderAllows_12 rfl (lv_at hl 1 rfl) ?_
    refine bv_get_n (ref := "BoxVault$Box") (host := "BoxVault") (ci := 0) (C := RX0) (T := TX0) (N := 10) hx hb hts hin0 hown hK hP (bv_cB G _ _ _ (hj)) rfl 1 (by decide) hE (by decide +kernel) rfl rfl dX2_holderAllows_13 ?_
    refine bv_eqi (y := S 10 j) (bv_vw_h S (by rw [h9]; decide)) ?_
    refine lv_icmp_eq (tgt := 31) hx hb dX2_holderAllows_16 (by decide) (fun c_2 => ?_) (fun c_2 => ?_)
    · have c_2 : (nI q) = (S 10 j) := c_2
      refine lv_iconst (v := 1) hx hb dX2_holderAllows_31 (by decide) ?_
      refine lv_goto (tgt := 36) hx hb dX2_holderAllows_32 (by decide) ?_
      exact bv_zret hx hb hr hlocks (rfl) hS (Nat.le_of_ble_eq_true rfl) (Nat.le_of_ble_eq_true rfl) dX2_holderAllows_36 (bI_t (by first | exact ⟨by assumption, Or.inl (by assumption)⟩ | exact ⟨by assumption, Or.inr (by assumption)⟩ | (intro h; exact absurd h.1 (by assumption)) | (intro h; exact h.2.elim (fun h => absurd h (by assumption)) (fun h => absurd h (by assumption))))).symm hP
    · have c_2 : ¬ (nI q) = (S 10 j) := c_2
      refine lv_aload_n hx hb dX2_holderAllows_19 rfl (lv_at hl 1 rfl) ?_
      refine lv_aload_n hx hb dX2_holderAllows_20 rfl (lv_at hl 0 rfl) ?_
      refine bv_get_f (ci := 2) (C := RX2) (T := TX2) (N := 6) hx hb hts hin2 hown hK hP (bv_c0 G _ _ _) rfl 5 (by decide) wl0 rfl rfl dX2_holderAllows_21 ?_
      refine lv_iload_n hx hb dX2_holderAllows_24 rfl (lv_at hl 2 rfl) ?_
      refine bv_ci (va_runVN (As := [.int (S 0 0), .int (nI q)]) (rest := []) ⟨hx, hb, hml, hown, hts⟩ (c_X0_hasProxyOn l G (bv_vw S) M z j (S 0 0) (nI q) c5 (by omega) (hc5) (ec5)) ⟨va_cnB (host := "BoxVault") 2 hts gX2_holderAllows_X0_hasProxyOn_n216 rfl rfl rfl (hE.1 _ (by decide +kernel)) wl1 (by decide +kernel) ⟨Nat.le_of_ble_eq_true rfl, Nat.le_of_ble_eq_true rfl⟩, wl4, wl5⟩ (bv_preV hz hP hK hE hS (ci := 0) (bv_cB G _ _ _ (hj)) rfl rfl) rfl rfl hl.1 rfl (lv_room (Nat.le_of_ble_eq_true rfl)) dX2_holderAllows_25 ⟨Nat.le_of_ble_eq_true rfl, Nat.le_of_ble_eq_true rfl⟩) hS (fun H locs hP hS => ?_)
      refine bv_eqi (y := bI (bv_prx S j q = true)) (congrArg (fun b => bI (b = true)) (bv_vw_prx hI hj hc5 ec5)) ?_
      refine bv_ifeqB (tgt := 35) hx hb dX2_holderAllows_28 (by decide) (fun c_3 => ?_) (fun c_3 => ?_)
      · have c_3 : ¬ (bv_prx S j q = true) := c_3
        refine lv_iconst (v := 0) hx hb dX2_holderAllows_35 (by decide) ?_
        exact bv_zret hx hb hr hlocks (rfl) hS (Nat.le_of_ble_eq_true rfl) (Nat.le_of_ble_eq_true rfl) dX2_holderAllows_36 (bI_f (by first | exact ⟨by assumption, Or.inl (by assumption)⟩ | exact ⟨by assumption, Or.inr (by assumption)⟩ | (intro h; exact absurd h.1 (by assumption)) | (intro h; exact h.2.elim (fun h => absurd h (by assumption)) (fun h => absurd h (by assumption))))).symm hP
      · have c_3 : (bv_prx S j q = true) := c_3
        refine lv_iconst (v := 1) hx hb dX2_holderAllows_31 (by decide) ?_
        refine lv_goto (tgt := 36) hx hb dX2_holderAllows_32 (by decide) ?_
        exact bv_zret hx hb hr hlocks (rfl) hS (Nat.le_of_ble_eq_true rfl) (Nat.le_of_ble_eq_true rfl) dX2_holderAllows_36 (bI_t (by first | exact ⟨by assumption, Or.inl (by assumption)⟩ | exact ⟨by assumption, Or.inr (by assumption)⟩ | (intro h; exact absurd h.1 (by assumption)) | (intro h; exact h.2.elim (fun h => absurd h (by assumption)) (fun h => absurd h (by assumption))))).symm hP
set_option maxHeartbeats 4000000 in
set_option maxRecDepth 100000 in
theorem c_X2_orderAllows (l : Launch) (G : bv_G) (S M : bv_X) (z : bv_Z) (n : Nat) (o : Nat) (j : Nat) (q : Nat) (hn : n ≤ 1000) (hI : bv_I n S) (ho : o < 30) (hh0 : ¬ S 0 1 ≤ nI o) (hj : j < 8) (hq : q < 16) (h9 : ¬ S 9 j = 0) : bv_M l yX2_orderAllows wsX2_orderAllows ({ frames := 3, cells := 0, slots := 0, locals := 64 }) [.ref (bv_a G 0), .int (nI o), .ref (bv_a G (11 + j)), .int (nI q)] G (bv_vw S) M z (bI (bv_od S o j q)) (bv_vw S) M z := by
  refine Met.ofW (cc := cX2_orderAllows) (maxL := 4) (ret := (some .boolean)) (by decide) rfl ?_
  intro p e s m args below meth c s₁ B hml hv
  obtain ⟨rfl, hz, hP, hK, hE⟩ := hv
  have hx := B.exec
  have hb := B.bytes
  have hr := B.returns
  have hts := atoms_spec (ws := wsX2_orderAllows) B.pre
  have hown : s.vm.findClass RX2 = some m.cls := findClass_of_methodNamed B.named
  have hlocks := B.notSynchronized
  have hS : va_S (bv_A G) s.heap s.heap [] := va_S.rf
  have wl0 := hts (.fieldLink RX2 18 "BoxVault" "orders" "LBoxVault$OrderBook;") (by decide +kernel)
  have wl1 := hts (.initialized RX1) (by decide +kernel)
  have wl2 := hts (.instanceMethod yX1_kindOf) (by decide +kernel)
  have wl3 := hts (.selects RX1 yX1_kindOf yX1_kindOf) (by decide +kernel)
  have wl4 := hts (.instanceMethod yX1_personOf) (by decide +kernel)
  have wl5 := hts (.selects RX1 yX1_personOf yX1_personOf) (by decide +kernel)
  have hin0 : ∀ w ∈ wsX00, w ∈ wsX2_orderAllows := (fun w h => List.mem_cons_of_mem _ (List.mem_append_left _ (List.mem_append_right _ h)))
  have hin2 : ∀ w ∈ wsX20, w ∈ wsX2_orderAllows := (fun w h => List.mem_cons_of_mem _ (List.mem_append_left _ (List.mem_append_left _ (List.mem_append_right _ h))))
  have hl := lv_entry ([.ref (bv_a G 0), .int (nI o), .ref (bv_a G (11 + j)), .int (nI q)]) (n := 4) (Nat.le_of_ble_eq_true rfl)
  rw [lg_entry_eq]
  generalize (lg_sl ([.ref (bv_a G 0), .int (nI o), .ref (bv_a G (11 + j)), .int (nI q)]) ++ List.replicate (4 - (lg_sl ([.ref (bv_a G 0), .int (nI o), .ref (bv_a G (11 + j)), .int (nI q)])).length) Slot.unset).toArray = ls at hl ⊢
  have hl : lv_has ls 4 [(0, .ref (bv_a G 0)), (1, .int (nI o)), (2, .ref (bv_a G (11 + j))), (3, .int (nI q))] := hl
  obtain ⟨d0, hd0, ed, ed2⟩ := bv_I_hd hI hj
  refine lv_aload_n hx hb dX2_orderAllows_0 rfl (lv_at hl 0 rfl) ?_
  refine bv_get_f (ci := 2) (C := RX2) (T := TX2) (N := 6) hx hb hts hin2 hown hK hP (bv_c0 G _ _ _) rfl 1 (by decide) wl0 rfl rfl dX2_orderAllows_1 ?_
  refine lv_iload_n hx hb dX2_orderAllows_4 rfl (lv_at hl 1 rfl) ?_
  refine bv_ci (va_runVN (As := [.int (nI o)]) (rest := []) ⟨hx, hb, hml, hown, hts⟩ (c_X1_kindOf l G (bv_vw S) M z (nI o) ) ⟨va_cnB (host := "BoxVault") 1 hts gX2_orderAllows_X1_kindOf_n114 rfl rfl rfl (hE.1 _ (by decide +kernel)) wl1 (by decide +kernel) ⟨Nat.le_of_ble_eq_true rfl, Nat.le_of_ble_eq_true rfl⟩, wl2, wl3⟩ (bv_preV hz hP hK hE hS (ci := 1) (bv_c2 G _ _ _) rfl rfl) rfl rfl hl.1 rfl (lv_room (Nat.le_of_ble_eq_true rfl)) dX2_orderAllows_5 ⟨Nat.le_of_ble_eq_true rfl, Nat.le_of_ble_eq_true rfl⟩) hS (fun H locs hP hS => ?_)
  refine bv_eqi (y := S 6 o) (bv_has_if (bv_vw S 6) ho hh0) ?_
  by_cases q1 : S 6 o = 1
  · refine lv_lookup (off := 28) (tgt := 36) hx hb dX2_orderAllows_8 (by decide) (by rw [q1]; rfl) (by decide) ?_
    refine lv_iload_n hx hb dX2_orderAllows_36 rfl (lv_at hl 3 rfl) ?_
    refine lv_aload_n hx hb dX2_orderAllows_37 rfl (lv_at hl 0 rfl) ?_
    refine bv_get_f (ci := 2) (C := RX2) (T := TX2) (N := 6) hx hb hts hin2 hown hK hP (bv_c0 G _ _ _) rfl 1 (by decide) wl0 rfl rfl dX2_orderAllows_38 ?_
    refine lv_iload_n hx hb dX2_orderAllows_41 rfl (lv_at hl 1 rfl) ?_
    refine bv_ci (va_runVN (As := [.int (nI o)]) (rest := [.int (nI q)]) ⟨hx, hb, hml, hown, hts⟩ (c_X1_personOf l G (bv_vw S) M z (nI o) ) ⟨va_cnB (host := "BoxVault") 1 hts gX2_orderAllows_X1_personOf_n210 rfl rfl rfl (hE.1 _ (by decide +kernel)) wl1 (by decide +kernel) ⟨Nat.le_of_ble_eq_true rfl, Nat.le_of_ble_eq_true rfl⟩, wl4, wl5⟩ (bv_preV hz hP hK hE hS (ci := 1) (bv_c2 G _ _ _) rfl rfl) rfl rfl hl.1 rfl (lv_room (Nat.le_of_ble_eq_true rfl)) dX2_orderAllows_42 ⟨Nat.le_of_ble_eq_true rfl, Nat.le_of_ble_eq_true rfl⟩) hS (fun H locs hP hS => ?_)
    refine bv_eqi (y := S 7 o) (bv_has_if (bv_vw S 7) ho hh0) ?_
    refine lv_icmp_ne (tgt := 52) hx hb dX2_orderAllows_45 (by decide) (fun c_1 => ?_) (fun c_1 => ?_)
    · have c_1 : ¬ (nI q) = (S 7 o) := c_1
      refine lv_iconst (v := 0) hx hb dX2_orderAllows_52 (by decide) ?_
      exact bv_zret hx hb hr hlocks (rfl) hS (Nat.le_of_ble_eq_true rfl) (Nat.le_of_ble_eq_true rfl) dX2_orderAllows_53 (bI_f (by simp [bv_od, q1, c_1, ed2])).symm hP
    · have c_1 : (nI q) = (S 7 o) := c_1
      refine lv_iconst (v := 1) hx hb dX2_orderAllows_48 (by decide) ?_
      refine lv_goto (tgt := 53) hx hb dX2_orderAllows_49 (by decide) ?_
      exact bv_zret hx hb hr hlocks (rfl) hS (Nat.le_of_ble_eq_true rfl) (Nat.le_of_ble_eq_true rfl) dX2_orderAllows_53 (bI_t (by simp [bv_od, q1, c_1, ed2])).symm hP
  by_cases q2 : S 6 o = 2
  · refine lv_lookup (off := 46) (tgt := 54) hx hb dX2_orderAllows_8 (by decide) (by rw [q2]; rfl) (by decide) ?_
    refine lv_aload_n hx hb dX2_orderAllows_54 rfl (lv_at hl 0 rfl) ?_
    refine lv_iload_n hx hb dX2_orderAllows_55 rfl (lv_at hl 3 rfl) ?_
    refine lv_aload_n hx hb dX2_orderAllows_56 rfl (lv_at hl 2 rfl) ?_
    refine bv_get_n (ref := "BoxVault$Box") (host := "BoxVault") (ci := 0) (C := RX0) (T := TX0) (N := 10) hx hb hts hin0 hown hK hP (bv_cB G _ _ _ (hj)) rfl 1 (by decide) hE (by decide +kernel) rfl rfl dX2_orderAllows_57 ?_
    refine bv_eqi (y := nI d0) ((bv_vw_h S (h9)).trans ed) ?_
    refine bv_ci (va_runV (As := [.int (nI q), .int (nI d0)]) (rest := []) ⟨hx, hb, hml, hown, hts⟩ (c_X2_isHeirOfDead l G (bv_vw S) M z q d0 (by omega) (by omega)) (cwV 2 hts gX2_orderAllows_X2_isHeirOfDead rfl rfl rfl (by decide +kernel) ⟨Nat.le_of_ble_eq_true rfl, Nat.le_of_ble_eq_true rfl⟩) (bv_preV hz hP hK hE hS (ci := 2) (bv_c0 G _ _ _) rfl rfl) rfl rfl hl.1 rfl (lv_room (Nat.le_of_ble_eq_true rfl)) dX2_orderAllows_60 ⟨Nat.le_of_ble_eq_true rfl, Nat.le_of_ble_eq_true rfl⟩) hS (fun H locs hP hS => ?_)
    exact bv_zret hx hb hr hlocks (bI_nz) hS (Nat.le_of_ble_eq_true rfl) (Nat.le_of_ble_eq_true rfl) dX2_orderAllows_63 (by exact bI_c (show (¬ S 1 d0 = 0 ∧ bv_hr S q d0) ↔ bv_od S o j q from by simp [bv_od, q1, q2, ed2])) hP
  · refine lv_lookup (off := 56) (tgt := 64) hx hb dX2_orderAllows_8 (by decide) (by show Op.lookupswitch.offset [(1, 28), (2, 46)] 56 _ = _; rw [lv_osw (a := 1) q1 rfl, lv_osw (a := 2) q2 rfl]; rfl) (by decide) ?_
    refine lv_iconst (v := 0) hx hb dX2_orderAllows_64 (by decide) ?_
    exact bv_zret hx hb hr hlocks (rfl) hS (Nat.le_of_ble_eq_true rfl) (Nat.le_of_ble_eq_true rfl) dX2_orderAllows_65 (bI_f (by simp [bv_od, q1, q2, ed2])).symm hP
set_option maxHeartbeats 4000000 in
set_option maxRecDepth 100000 in
theorem c_X2_rightOf (l : Launch) (G : bv_G) (S M : bv_X) (z : bv_Z) (n : Nat) (j : Nat) (q : Nat) (hn : n ≤ 1000) (hI : bv_I n S) (hj : j < 8) (hq : q < 16) : bv_M l yX2_rightOf wsX2_rightOf ({ frames := 4, cells := 0, slots := 0, locals := 87 }) [.ref (bv_a G 0), .int (nI j), .ref (bv_a G (11 + j)), .int (nI q)] G (bv_vw S) M z (bv_rt S j q) (bv_vw S) M z := by
  refine Met.ofW (cc := cX2_rightOf) (maxL := 5) (ret := (some .int)) (by decide) rfl ?_
  intro p e s m args below meth c s₁ B hml hv
  obtain ⟨rfl, hz, hP, hK, hE⟩ := hv
  have hx := B.exec
  have hb := B.bytes
  have hr := B.returns
  have hts := atoms_spec (ws := wsX2_rightOf) B.pre
  have hown : s.vm.findClass RX2 = some m.cls := findClass_of_methodNamed B.named
  have hlocks := B.notSynchronized
  have hS : va_S (bv_A G) s.heap s.heap [] := va_S.rf
  have wl0 := hts (.initialized RX0) (by decide +kernel)
  have wl1 := hts (.instanceMethod yX0_isRented) (by decide +kernel)
  have wl2 := hts (.selects RX0 yX0_isRented yX0_isRented) (by decide +kernel)
  have wl3 := hts (.fieldLink RX2 18 "BoxVault" "orders" "LBoxVault$OrderBook;") (by decide +kernel)
  have wl4 := hts (.initialized RX1) (by decide +kernel)
  have wl5 := hts (.instanceMethod yX1_bindingOn) (by decide +kernel)
  have wl6 := hts (.selects RX1 yX1_bindingOn yX1_bindingOn) (by decide +kernel)
  have hin0 : ∀ w ∈ wsX00, w ∈ wsX2_rightOf := (fun w h => List.mem_cons_of_mem _ (List.mem_append_left _ (List.mem_append_right _ h)))
  have hin2 : ∀ w ∈ wsX20, w ∈ wsX2_rightOf := (fun w h => List.mem_cons_of_mem _ (List.mem_append_left _ (List.mem_append_left _ (List.mem_append_right _ h))))
  have hl := lv_entry ([.ref (bv_a G 0), .int (nI j), .ref (bv_a G (11 + j)), .int (nI q)]) (n := 5) (Nat.le_of_ble_eq_true rfl)
  rw [lg_entry_eq]
  generalize (lg_sl ([.ref (bv_a G 0), .int (nI j), .ref (bv_a G (11 + j)), .int (nI q)]) ++ List.replicate (5 - (lg_sl ([.ref (bv_a G 0), .int (nI j), .ref (bv_a G (11 + j)), .int (nI q)])).length) Slot.unset).toArray = ls at hl ⊢
  have hl : lv_has ls 5 [(0, .ref (bv_a G 0)), (1, .int (nI j)), (2, .ref (bv_a G (11 + j))), (3, .int (nI q))] := hl
  obtain ⟨cn, hc, ec⟩ := bv_I_cnt hI
  obtain ⟨d0, hd0, ed, ed2⟩ := bv_I_hd hI hj
  refine lv_aload_n hx hb dX2_rightOf_0 rfl (lv_at hl 2 rfl) ?_
  refine bv_ci (va_runVN (As := []) (rest := []) ⟨hx, hb, hml, hown, hts⟩ (c_X0_isRented l G (bv_vw S) M z j (by omega)) ⟨va_cnB (host := "BoxVault") 0 hts gX2_rightOf_X0_isRented_n160 rfl rfl rfl (hE.1 _ (by decide +kernel)) wl0 (by decide +kernel) ⟨Nat.le_of_ble_eq_true rfl, Nat.le_of_ble_eq_true rfl⟩, wl1, wl2⟩ (bv_preV hz hP hK hE hS (ci := 0) (bv_cB G _ _ _ (hj)) rfl rfl) rfl rfl hl.1 rfl (lv_room (Nat.le_of_ble_eq_true rfl)) dX2_rightOf_1 ⟨Nat.le_of_ble_eq_true rfl, Nat.le_of_ble_eq_true rfl⟩) hS (fun H locs hP hS => ?_)
  refine bv_ifeqB (tgt := 15) hx hb dX2_rightOf_4 (by decide) (fun c_1 => ?_) (fun c_1 => ?_)
  · have c_1 : ¬ (S 9 j = 1) := c_1
    refine lv_iconst (v := 3) hx hb dX2_rightOf_15 (by decide) ?_
    exact bv_iret hx hb hr hlocks hS (Nat.le_of_ble_eq_true rfl) (Nat.le_of_ble_eq_true rfl) dX2_rightOf_16 (by simp [bv_rt, c_1, ed2]) hP
  · have c_1 : (S 9 j = 1) := c_1
    refine lv_aload_n hx hb dX2_rightOf_7 rfl (lv_at hl 0 rfl) ?_
    refine lv_iload_n hx hb dX2_rightOf_8 rfl (lv_at hl 3 rfl) ?_
    refine bv_ci (va_runV (As := [.int (nI q)]) (rest := []) ⟨hx, hb, hml, hown, hts⟩ (c_X2_isAlive l G (bv_vw S) M z q (by omega)) (cwV 1 hts gX2_rightOf_X2_isAlive rfl rfl rfl (by decide +kernel) ⟨Nat.le_of_ble_eq_true rfl, Nat.le_of_ble_eq_true rfl⟩) (bv_preV hz hP hK hE hS (ci := 2) (bv_c0 G _ _ _) rfl rfl) rfl rfl hl.1 rfl (lv_room (Nat.le_of_ble_eq_true rfl)) dX2_rightOf_9 ⟨Nat.le_of_ble_eq_true rfl, Nat.le_of_ble_eq_true rfl⟩) hS (fun H locs hP hS => ?_)
    refine bv_ifneB (tgt := 17) hx hb dX2_rightOf_12 (by decide) (fun c_2 => ?_) (fun c_2 => ?_)
    · have c_2 : (S 1 q = 0) := c_2
      refine lv_aload_n hx hb dX2_rightOf_17 rfl (lv_at hl 0 rfl) ?_
      refine bv_get_f (ci := 2) (C := RX2) (T := TX2) (N := 6) hx hb hts hin2 hown hK hP (bv_c0 G _ _ _) rfl 1 (by decide) wl3 rfl rfl dX2_rightOf_18 ?_
      refine lv_iload_n hx hb dX2_rightOf_21 rfl (lv_at hl 1 rfl) ?_
      refine bv_ci (va_runVN (As := [.int (nI j)]) (rest := []) ⟨hx, hb, hml, hown, hts⟩ (c_X1_bindingOn l G (bv_vw S) M z (nI j) cn (hc) (ec)) ⟨va_cnB (host := "BoxVault") 1 hts gX2_rightOf_X1_bindingOn_n111 rfl rfl rfl (hE.1 _ (by decide +kernel)) wl4 (by decide +kernel) ⟨Nat.le_of_ble_eq_true rfl, Nat.le_of_ble_eq_true rfl⟩, wl5, wl6⟩ (bv_preV hz hP hK hE hS (ci := 1) (bv_c2 G _ _ _) rfl rfl) rfl rfl hl.1 rfl (lv_room (Nat.le_of_ble_eq_true rfl)) dX2_rightOf_22 ⟨Nat.le_of_ble_eq_true rfl, Nat.le_of_ble_eq_true rfl⟩) hS (fun H locs hP hS => ?_)
      refine bv_eqi (y := bv_bd S (nI j)) ((bv_vw_bn S _ cn).trans (bv_bd_c ec hc)) ?_
      refine lv_istore (lv' := [(4, .int (bv_bd S (nI j))), (0, .ref (bv_a G 0)), (1, .int (nI j)), (2, .ref (bv_a G (11 + j))), (3, .int (nI q))]) hx hb dX2_rightOf_25 hl (by decide) rfl (fun ls hl => ?_)
      refine lv_iload hx hb dX2_rightOf_27 (lv_at hl 0 rfl) ?_
      refine lv_iconst (v := (-1)) hx hb dX2_rightOf_29 (by decide) ?_
      refine lv_icmp_eq (tgt := 50) hx hb dX2_rightOf_30 (by decide) (fun c_3 => ?_) (fun c_3 => ?_)
      · have c_3 : (bv_bd S (nI j)) = (-1) := c_3
        have h90 : ¬ S 9 j = 0 := by rw [c_1]; decide
        refine lv_aload_n hx hb dX2_rightOf_50 rfl (lv_at hl 1 rfl) ?_
        refine lv_aload_n hx hb dX2_rightOf_51 rfl (lv_at hl 3 rfl) ?_
        refine bv_get_n (ref := "BoxVault$Box") (host := "BoxVault") (ci := 0) (C := RX0) (T := TX0) (N := 10) hx hb hts hin0 hown hK hP (bv_cB G _ _ _ (hj)) rfl 1 (by decide) hE (by decide +kernel) rfl rfl dX2_rightOf_52 ?_
        refine bv_eqi (y := nI d0) ((bv_vw_h S (h90)).trans ed) ?_
        refine bv_ci (va_runV (As := [.int (nI d0)]) (rest := []) ⟨hx, hb, hml, hown, hts⟩ (c_X2_isAlive l G (bv_vw S) M z d0 (by omega)) (cwV 1 hts gX2_rightOf_X2_isAlive rfl rfl rfl (by decide +kernel) ⟨Nat.le_of_ble_eq_true rfl, Nat.le_of_ble_eq_true rfl⟩) (bv_preV hz hP hK hE hS (ci := 2) (bv_c0 G _ _ _) rfl rfl) rfl rfl hl.1 rfl (lv_room (Nat.le_of_ble_eq_true rfl)) dX2_rightOf_55 ⟨Nat.le_of_ble_eq_true rfl, Nat.le_of_ble_eq_true rfl⟩) hS (fun H locs hP hS => ?_)
        refine bv_ifeqB (tgt := 76) hx hb dX2_rightOf_58 (by decide) (fun c_4 => ?_) (fun c_4 => ?_)
        · have c_4 : ¬ (S 1 d0 = 0) := c_4
          refine lv_aload_n hx hb dX2_rightOf_76 rfl (lv_at hl 1 rfl) ?_
          refine lv_iload_n hx hb dX2_rightOf_77 rfl (lv_at hl 4 rfl) ?_
          refine lv_aload_n hx hb dX2_rightOf_78 rfl (lv_at hl 3 rfl) ?_
          refine bv_get_n (ref := "BoxVault$Box") (host := "BoxVault") (ci := 0) (C := RX0) (T := TX0) (N := 10) hx hb hts hin0 hown hK hP (bv_cB G _ _ _ (hj)) rfl 1 (by decide) hE (by decide +kernel) rfl rfl dX2_rightOf_79 ?_
          refine bv_eqi (y := nI d0) ((bv_vw_h S (h90)).trans ed) ?_
          refine bv_ci (va_runV (As := [.int (nI q), .int (nI d0)]) (rest := []) ⟨hx, hb, hml, hown, hts⟩ (c_X2_isHeir l G (bv_vw S) M z q d0 (by omega) (by omega)) (cwV 2 hts gX2_rightOf_X2_isHeir rfl rfl rfl (by decide +kernel) ⟨Nat.le_of_ble_eq_true rfl, Nat.le_of_ble_eq_true rfl⟩) (bv_preV hz hP hK hE hS (ci := 2) (bv_c0 G _ _ _) rfl rfl) rfl rfl hl.1 rfl (lv_room (Nat.le_of_ble_eq_true rfl)) dX2_rightOf_82 ⟨Nat.le_of_ble_eq_true rfl, Nat.le_of_ble_eq_true rfl⟩) hS (fun H locs hP hS => ?_)
          refine bv_ifeqB (tgt := 99) hx hb dX2_rightOf_85 (by decide) (fun c_5 => ?_) (fun c_5 => ?_)
          · have c_5 : ¬ (bv_hr S q d0) := c_5
            refine lv_iconst (v := 3) hx hb dX2_rightOf_99 (by decide) ?_
            exact bv_iret hx hb hr hlocks hS (Nat.le_of_ble_eq_true rfl) (Nat.le_of_ble_eq_true rfl) dX2_rightOf_100 (by simp [bv_rt, c_1, c_2, c_3, c_4, c_5, ed2]) hP
          · have c_5 : (bv_hr S q d0) := c_5
            refine lv_aload_n hx hb dX2_rightOf_88 rfl (lv_at hl 3 rfl) ?_
            refine bv_get_n (ref := "BoxVault$Box") (host := "BoxVault") (ci := 0) (C := RX0) (T := TX0) (N := 10) hx hb hts hin0 hown hK hP (bv_cB G _ _ _ (hj)) rfl 5 (by decide) hE (by decide +kernel) rfl rfl dX2_rightOf_89 ?_
            refine lv_if_ne (tgt := 99) hx hb dX2_rightOf_92 (by decide) (fun c_6 => ?_) (fun c_6 => ?_)
            · have c_6 : ¬ (S 14 j) = 0 := c_6
              refine lv_iconst (v := 3) hx hb dX2_rightOf_99 (by decide) ?_
              exact bv_iret hx hb hr hlocks hS (Nat.le_of_ble_eq_true rfl) (Nat.le_of_ble_eq_true rfl) dX2_rightOf_100 (by simp [bv_rt, c_1, c_2, c_3, c_4, c_5, c_6, ed2]) hP
            · have c_6 : (S 14 j) = 0 := c_6
              refine lv_iconst (v := 1) hx hb dX2_rightOf_95 (by decide) ?_
              refine lv_goto (tgt := 100) hx hb dX2_rightOf_96 (by decide) ?_
              exact bv_iret hx hb hr hlocks hS (Nat.le_of_ble_eq_true rfl) (Nat.le_of_ble_eq_true rfl) dX2_rightOf_100 (by simp [bv_rt, c_1, c_2, c_3, c_4, c_5, c_6, ed2]) hP
        · have c_4 : (S 1 d0 = 0) := c_4
          refine lv_aload_n hx hb dX2_rightOf_61 rfl (lv_at hl 1 rfl) ?_
          refine lv_aload_n hx hb dX2_rightOf_62 rfl (lv_at hl 3 rfl) ?_
          refine lv_iload_n hx hb dX2_rightOf_63 rfl (lv_at hl 4 rfl) ?_
          refine bv_ci (va_runV (As := [.ref (bv_a G (11 + j)), .int (nI q)]) (rest := []) ⟨hx, hb, hml, hown, hts⟩ (c_X2_holderAllows l G S M z n j q (hn) (hI) (by omega) (by omega) (c_1)) (cwV 2 hts gX2_rightOf_X2_holderAllows rfl rfl rfl (by decide +kernel) ⟨Nat.le_of_ble_eq_true rfl, Nat.le_of_ble_eq_true rfl⟩) (bv_preV hz hP hK hE hS (ci := 2) (bv_c0 G _ _ _) rfl rfl) rfl rfl hl.1 rfl (lv_room (Nat.le_of_ble_eq_true rfl)) dX2_rightOf_64 ⟨Nat.le_of_ble_eq_true rfl, Nat.le_of_ble_eq_true rfl⟩) hS (fun H locs hP hS => ?_)
          refine bv_ifeqB (tgt := 74) hx hb dX2_rightOf_67 (by decide) (fun c_7 => ?_) (fun c_7 => ?_)
          · have c_7 : ¬ (bv_nt S j = 0 ∧ (nI q = S 10 j ∨ bv_prx S j q = true)) := c_7
            refine lv_iconst (v := 3) hx hb dX2_rightOf_74 (by decide) ?_
            exact bv_iret hx hb hr hlocks hS (Nat.le_of_ble_eq_true rfl) (Nat.le_of_ble_eq_true rfl) dX2_rightOf_75 (by simp [bv_rt, c_1, c_2, c_3, c_4, c_7, ed2]) hP
          · have c_7 : (bv_nt S j = 0 ∧ (nI q = S 10 j ∨ bv_prx S j q = true)) := c_7
            refine lv_iconst (v := 0) hx hb dX2_rightOf_70 (by decide) ?_
            refine lv_goto (tgt := 75) hx hb dX2_rightOf_71 (by decide) ?_
            exact bv_iret hx hb hr hlocks hS (Nat.le_of_ble_eq_true rfl) (Nat.le_of_ble_eq_true rfl) dX2_rightOf_75 (by simp [bv_rt, c_1, c_2, c_3, c_4, c_7, ed2]) hP
      · have c_3 : ¬ (bv_bd S (nI j)) = (-1) := c_3
        have h90 : ¬ S 9 j = 0 := by rw [c_1]; decide
        obtain ⟨o, ho, eo, eo2, ea, hh0⟩ := bv_I_bd hI c_3
        rw [eo] at hl
        refine lv_aload_n hx hb dX2_rightOf_33 rfl (lv_at hl 1 rfl) ?_
        refine lv_iload hx hb dX2_rightOf_34 (lv_at hl 0 rfl) ?_
        refine lv_aload_n hx hb dX2_rightOf_36 rfl (lv_at hl 3 rfl) ?_
        refine lv_iload_n hx hb dX2_rightOf_37 rfl (lv_at hl 4 rfl) ?_
        refine bv_ci (va_runV (As := [.int (nI o), .ref (bv_a G (11 + j)), .int (nI q)]) (rest := []) ⟨hx, hb, hml, hown, hts⟩ (c_X2_orderAllows l G S M z n o j q (hn) (hI) (ho) (hh0) (by omega) (by omega) (h90)) (cwV 3 hts gX2_rightOf_X2_orderAllows rfl rfl rfl (by decide +kernel) ⟨Nat.le_of_ble_eq_true rfl, Nat.le_of_ble_eq_true rfl⟩) (bv_preV hz hP hK hE hS (ci := 2) (bv_c0 G _ _ _) rfl rfl) rfl rfl hl.1 rfl (lv_room (Nat.le_of_ble_eq_true rfl)) dX2_rightOf_38 ⟨Nat.le_of_ble_eq_true rfl, Nat.le_of_ble_eq_true rfl⟩) hS (fun H locs hP hS => ?_)
        refine bv_ifeqB (tgt := 48) hx hb dX2_rightOf_41 (by decide) (fun c_8 => ?_) (fun c_8 => ?_)
        · have c_8 : ¬ (bv_od S o j q) := c_8
          refine lv_iconst (v := 3) hx hb dX2_rightOf_48 (by decide) ?_
          exact bv_iret hx hb hr hlocks hS (Nat.le_of_ble_eq_true rfl) (Nat.le_of_ble_eq_true rfl) dX2_rightOf_49 (by simp [bv_rt, c_1, c_2, c_3, eo2, c_8, ed2]) hP
        · have c_8 : (bv_od S o j q) := c_8
          refine lv_iconst (v := 0) hx hb dX2_rightOf_44 (by decide) ?_
          refine lv_goto (tgt := 49) hx hb dX2_rightOf_45 (by decide) ?_
          exact bv_iret hx hb hr hlocks hS (Nat.le_of_ble_eq_true rfl) (Nat.le_of_ble_eq_true rfl) dX2_rightOf_49 (by simp [bv_rt, c_1, c_2, c_3, eo2, c_8, ed2]) hP
    · have c_2 : ¬ (S 1 q = 0) := c_2
      refine lv_iconst (v := 3) hx hb dX2_rightOf_15 (by decide) ?_
      exact bv_iret hx hb hr hlocks hS (Nat.le_of_ble_eq_true rfl) (Nat.le_of_ble_eq_true rfl) dX2_rightOf_16 (by simp [bv_rt, c_1, c_2, ed2]) hP
set_option maxHeartbeats 4000000 in
set_option maxRecDepth 100000 in
theorem c_X2_mayFetch (l : Launch) (G : bv_G) (S M : bv_X) (z : bv_Z) (n : Nat) (j : Nat) (q : Nat) (hn : n ≤ 1000) (hI : bv_I n S) (hj : j < 8) (hq : q < 16) (h9 : S 9 j = 2) : bv_M l yX2_mayFetch wsX2_mayFetch ({ frames := 4, cells := 0, slots := 0, locals := 87 }) [.ref (bv_a G 0), .int (nI j), .ref (bv_a G (11 + j)), .int (nI q)] G (bv_vw S) M z (bI (bv_mf S j q)) (bv_vw S) M z := by
  refine Met.ofW (cc := cX2_mayFetch) (maxL := 5) (ret := (some .boolean)) (by decide) rfl ?_
  intro p e s m args below meth c s₁ B hml hv
  obtain ⟨rfl, hz, hP, hK, hE⟩ := hv
  have hx := B.exec
  have hb := B.bytes
  have hr := B.returns
  have hts := atoms_spec (ws := wsX2_mayFetch) B.pre
  have hown : s.vm.findClass RX2 = some m.cls := findClass_of_methodNamed B.named
  have hlocks := B.notSynchronized
  have hS : va_S (bv_A G) s.heap s.heap [] := va_S.rf
  have wl0 := hts (.fieldLink RX2 18 "BoxVault" "orders" "LBoxVault$OrderBook;") (by decide +kernel)
  have wl1 := hts (.initialized RX1) (by decide +kernel)
  have wl2 := hts (.instanceMethod yX1_bindingOn) (by decide +kernel)
  have wl3 := hts (.selects RX1 yX1_bindingOn yX1_bindingOn) (by decide +kernel)
  have hin0 : ∀ w ∈ wsX00, w ∈ wsX2_mayFetch := (fun w h => List.mem_cons_of_mem _ (List.mem_append_left _ (List.mem_append_right _ h)))
  have hin2 : ∀ w ∈ wsX20, w ∈ wsX2_mayFetch := (fun w h => List.mem_cons_of_mem _ (List.mem_append_left _ (List.mem_append_left _ (List.mem_append_right _ h))))
  have hl := lv_entry ([.ref (bv_a G 0), .int (nI j), .ref (bv_a G (11 + j)), .int (nI q)]) (n := 5) (Nat.le_of_ble_eq_true rfl)
  rw [lg_entry_eq]
  generalize (lg_sl ([.ref (bv_a G 0), .int (nI j), .ref (bv_a G (11 + j)), .int (nI q)]) ++ List.replicate (5 - (lg_sl ([.ref (bv_a G 0), .int (nI j), .ref (bv_a G (11 + j)), .int (nI q)])).length) Slot.unset).toArray = ls at hl ⊢
  have hl : lv_has ls 5 [(0, .ref (bv_a G 0)), (1, .int (nI j)), (2, .ref (bv_a G (11 + j))), (3, .int (nI q))] := hl
  obtain ⟨cn, hc, ec⟩ := bv_I_cnt hI
  obtain ⟨d0, hd0, ed, ed2⟩ := bv_I_hd hI hj
  have h90 : ¬ S 9 j = 0 := by rw [h9]; decide
  refine lv_aload_n hx hb dX2_mayFetch_0 rfl (lv_at hl 0 rfl) ?_
  refine lv_iload_n hx hb dX2_mayFetch_1 rfl (lv_at hl 3 rfl) ?_
  refine bv_ci (va_runV (As := [.int (nI q)]) (rest := []) ⟨hx, hb, hml, hown, hts⟩ (c_X2_isAlive l G (bv_vw S) M z q (by omega)) (cwV 1 hts gX2_mayFetch_X2_isAlive rfl rfl rfl (by decide +kernel) ⟨Nat.le_of_ble_eq_true rfl, Nat.le_of_ble_eq_true rfl⟩) (bv_preV hz hP hK hE hS (ci := 2) (bv_c0 G _ _ _) rfl rfl) rfl rfl hl.1 rfl (lv_room (Nat.le_of_ble_eq_true rfl)) dX2_mayFetch_2 ⟨Nat.le_of_ble_eq_true rfl, Nat.le_of_ble_eq_true rfl⟩) hS (fun H locs hP hS => ?_)
  refine bv_ifneB (tgt := 10) hx hb dX2_mayFetch_5 (by decide) (fun c_1 => ?_) (fun c_1 => ?_)
  · have c_1 : (S 1 q = 0) := c_1
    refine lv_aload_n hx hb dX2_mayFetch_10 rfl (lv_at hl 0 rfl) ?_
    refine bv_get_f (ci := 2) (C := RX2) (T := TX2) (N := 6) hx hb hts hin2 hown hK hP (bv_c0 G _ _ _) rfl 1 (by decide) wl0 rfl rfl dX2_mayFetch_11 ?_
    refine lv_iload_n hx hb dX2_mayFetch_14 rfl (lv_at hl 1 rfl) ?_
    refine bv_ci (va_runVN (As := [.int (nI j)]) (rest := []) ⟨hx, hb, hml, hown, hts⟩ (c_X1_bindingOn l G (bv_vw S) M z (nI j) cn (hc) (ec)) ⟨va_cnB (host := "BoxVault") 1 hts gX2_mayFetch_X1_bindingOn_n111 rfl rfl rfl (hE.1 _ (by decide +kernel)) wl1 (by decide +kernel) ⟨Nat.le_of_ble_eq_true rfl, Nat.le_of_ble_eq_true rfl⟩, wl2, wl3⟩ (bv_preV hz hP hK hE hS (ci := 1) (bv_c2 G _ _ _) rfl rfl) rfl rfl hl.1 rfl (lv_room (Nat.le_of_ble_eq_true rfl)) dX2_mayFetch_15 ⟨Nat.le_of_ble_eq_true rfl, Nat.le_of_ble_eq_true rfl⟩) hS (fun H locs hP hS => ?_)
    refine bv_eqi (y := bv_bd S (nI j)) ((bv_vw_bn S _ cn).trans (bv_bd_c ec hc)) ?_
    refine lv_istore (lv' := [(4, .int (bv_bd S (nI j))), (0, .ref (bv_a G 0)), (1, .int (nI j)), (2, .ref (bv_a G (11 + j))), (3, .int (nI q))]) hx hb dX2_mayFetch_18 hl (by decide) rfl (fun ls hl => ?_)
    refine lv_iload hx hb dX2_mayFetch_20 (lv_at hl 0 rfl) ?_
    refine lv_iconst (v := (-1)) hx hb dX2_mayFetch_22 (by decide) ?_
    refine lv_icmp_eq (tgt := 35) hx hb dX2_mayFetch_23 (by decide) (fun c_2 => ?_) (fun c_2 => ?_)
    · have c_2 : (bv_bd S (nI j)) = (-1) := c_2
      refine lv_iload_n hx hb dX2_mayFetch_35 rfl (lv_at hl 4 rfl) ?_
      refine lv_aload_n hx hb dX2_mayFetch_36 rfl (lv_at hl 3 rfl) ?_
      refine bv_get_n (ref := "BoxVault$Box") (host := "BoxVault") (ci := 0) (C := RX0) (T := TX0) (N := 10) hx hb hts hin0 hown hK hP (bv_cB G _ _ _ (hj)) rfl 1 (by decide) hE (by decide +kernel) rfl rfl dX2_mayFetch_37 ?_
      refine bv_eqi (y := S 10 j) (bv_vw_h S h90) ?_
      refine lv_icmp_eq (tgt := 55) hx hb dX2_mayFetch_40 (by decide) (fun c_3 => ?_) (fun c_3 => ?_)
      · have c_3 : (nI q) = (S 10 j) := c_3
        refine lv_iconst (v := 1) hx hb dX2_mayFetch_55 (by decide) ?_
        refine lv_goto (tgt := 60) hx hb dX2_mayFetch_56 (by decide) ?_
        exact bv_zret hx hb hr hlocks (rfl) hS (Nat.le_of_ble_eq_true rfl) (Nat.le_of_ble_eq_true rfl) dX2_mayFetch_60 (bI_t (by first | (rw [bv_mf_e hd0 ed ed2 hq (by assumption) (by assumption)]; first | exact Or.inl (by assumption) | exact Or.inr (by assumption) | (rintro (h | h) <;> exact absurd h (by assumption))) | (intro h; exact absurd h.1 (by assumption)))).symm hP
      · have c_3 : ¬ (nI q) = (S 10 j) := c_3
        refine lv_aload_n hx hb dX2_mayFetch_43 rfl (lv_at hl 1 rfl) ?_
        refine lv_iload_n hx hb dX2_mayFetch_44 rfl (lv_at hl 4 rfl) ?_
        refine lv_aload_n hx hb dX2_mayFetch_45 rfl (lv_at hl 3 rfl) ?_
        refine bv_get_n (ref := "BoxVault$Box") (host := "BoxVault") (ci := 0) (C := RX0) (T := TX0) (N := 10) hx hb hts hin0 hown hK hP (bv_cB G _ _ _ (hj)) rfl 1 (by decide) hE (by decide +kernel) rfl rfl dX2_mayFetch_46 ?_
        refine bv_eqi (y := nI d0) ((bv_vw_h S (h90)).trans ed) ?_
        refine bv_ci (va_runV (As := [.int (nI q), .int (nI d0)]) (rest := []) ⟨hx, hb, hml, hown, hts⟩ (c_X2_isHeirOfDead l G (bv_vw S) M z q d0 (by omega) (by omega)) (cwV 2 hts gX2_mayFetch_X2_isHeirOfDead rfl rfl rfl (by decide +kernel) ⟨Nat.le_of_ble_eq_true rfl, Nat.le_of_ble_eq_true rfl⟩) (bv_preV hz hP hK hE hS (ci := 2) (bv_c0 G _ _ _) rfl rfl) rfl rfl hl.1 rfl (lv_room (Nat.le_of_ble_eq_true rfl)) dX2_mayFetch_49 ⟨Nat.le_of_ble_eq_true rfl, Nat.le_of_ble_eq_true rfl⟩) hS (fun H locs hP hS => ?_)
        refine bv_ifeqB (tgt := 59) hx hb dX2_mayFetch_52 (by decide) (fun c_4 => ?_) (fun c_4 => ?_)
        · have c_4 : ¬ (¬ S 1 d0 = 0 ∧ bv_hr S q d0) := c_4
          refine lv_iconst (v := 0) hx hb dX2_mayFetch_59 (by decide) ?_
          exact bv_zret hx hb hr hlocks (rfl) hS (Nat.le_of_ble_eq_true rfl) (Nat.le_of_ble_eq_true rfl) dX2_mayFetch_60 (bI_f (by first | (rw [bv_mf_e hd0 ed ed2 hq (by assumption) (by assumption)]; first | exact Or.inl (by assumption) | exact Or.inr (by assumption) | (rintro (h | h) <;> exact absurd h (by assumption))) | (intro h; exact absurd h.1 (by assumption)))).symm hP
        · have c_4 : (¬ S 1 d0 = 0 ∧ bv_hr S q d0) := c_4
          refine lv_iconst (v := 1) hx hb dX2_mayFetch_55 (by decide) ?_
          refine lv_goto (tgt := 60) hx hb dX2_mayFetch_56 (by decide) ?_
          exact bv_zret hx hb hr hlocks (rfl) hS (Nat.le_of_ble_eq_true rfl) (Nat.le_of_ble_eq_true rfl) dX2_mayFetch_60 (bI_t (by first | (rw [bv_mf_e hd0 ed ed2 hq (by assumption) (by assumption)]; first | exact Or.inl (by assumption) | exact Or.inr (by assumption) | (rintro (h | h) <;> exact absurd h (by assumption))) | (intro h; exact absurd h.1 (by assumption)))).symm hP
    · have c_2 : ¬ (bv_bd S (nI j)) = (-1) := c_2
      obtain ⟨o, ho, eo, eo2, ea, hh0⟩ := bv_I_bd hI c_2
      rw [eo] at hl
      refine lv_aload_n hx hb dX2_mayFetch_26 rfl (lv_at hl 1 rfl) ?_
      refine lv_iload hx hb dX2_mayFetch_27 (lv_at hl 0 rfl) ?_
      refine lv_aload_n hx hb dX2_mayFetch_29 rfl (lv_at hl 3 rfl) ?_
      refine lv_iload_n hx hb dX2_mayFetch_30 rfl (lv_at hl 4 rfl) ?_
      refine bv_ci (va_runV (As := [.int (nI o), .ref (bv_a G (11 + j)), .int (nI q)]) (rest := []) ⟨hx, hb, hml, hown, hts⟩ (c_X2_orderAllows l G S M z n o j q (hn) (hI) (ho) (hh0) (by omega) (by omega) (h90)) (cwV 3 hts gX2_mayFetch_X2_orderAllows rfl rfl rfl (by decide +kernel) ⟨Nat.le_of_ble_eq_true rfl, Nat.le_of_ble_eq_true rfl⟩) (bv_preV hz hP hK hE hS (ci := 2) (bv_c0 G _ _ _) rfl rfl) rfl rfl hl.1 rfl (lv_room (Nat.le_of_ble_eq_true rfl)) dX2_mayFetch_31 ⟨Nat.le_of_ble_eq_true rfl, Nat.le_of_ble_eq_true rfl⟩) hS (fun H locs hP hS => ?_)
      exact bv_zret hx hb hr hlocks (bI_nz) hS (Nat.le_of_ble_eq_true rfl) (Nat.le_of_ble_eq_true rfl) dX2_mayFetch_34 (by exact bI_c (by simp [bv_mf, c_1, c_2, eo2, ed2])) hP
  · have c_1 : ¬ (S 1 q = 0) := c_1
    refine lv_iconst (v := 0) hx hb dX2_mayFetch_8 (by decide) ?_
    exact bv_zret hx hb hr hlocks (rfl) hS (Nat.le_of_ble_eq_true rfl) (Nat.le_of_ble_eq_true rfl) dX2_mayFetch_9 (bI_f (by first | (rw [bv_mf_e hd0 ed ed2 hq (by assumption) (by assumption)]; first | exact Or.inl (by assumption) | exact Or.inr (by assumption) | (rintro (h | h) <;> exact absurd h (by assumption))) | (intro h; exact absurd h.1 (by assumption)))).symm hP
set_option maxHeartbeats 4000000 in
set_option maxRecDepth 100000 in
theorem c_X2_makeFree (l : Launch) (G : bv_G) (S M : bv_X) (z : bv_Z) (j : Nat) (cn : Nat) (hj : j < 8) (hc : cn ≤ 30) (ec : S 0 1 = nI cn) : bv_Mv l yX2_makeFree wsX2_makeFree ({ frames := 2, cells := 0, slots := 0, locals := 40 }) [.ref (bv_a G 0), .int (nI j), .ref (bv_a G (11 + j))] G S M z (bv_fr (bv_up (bv_up (bv_up S 9 j 0) 10 j (-1)) 15 j 0) (nI j) cn) M z := by
  refine Met.ofW (cc := cX2_makeFree) (maxL := 3) (ret := none) (by decide) rfl ?_
  intro p e s m args below meth c s₁ B hml hv
  obtain ⟨rfl, hz, hP, hK, hE⟩ := hv
  have hx := B.exec
  have hb := B.bytes
  have hr := B.returns
  have hts := atoms_spec (ws := wsX2_makeFree) B.pre
  have hown : s.vm.findClass RX2 = some m.cls := findClass_of_methodNamed B.named
  have hlocks := B.notSynchronized
  have hS : va_S (bv_A G) s.heap s.heap [] := va_S.rf
  have wl0 := hts (.initialized RX0) (by decide +kernel)
  have wl1 := hts (.instanceMethod yX0_empty) (by decide +kernel)
  have wl2 := hts (.selects RX0 yX0_empty yX0_empty) (by decide +kernel)
  have wl3 := hts (.fieldLink RX2 18 "BoxVault" "orders" "LBoxVault$OrderBook;") (by decide +kernel)
  have wl4 := hts (.initialized RX1) (by decide +kernel)
  have wl5 := hts (.instanceMethod yX1_endAllOn) (by decide +kernel)
  have wl6 := hts (.selects RX1 yX1_endAllOn yX1_endAllOn) (by decide +kernel)
  have hin2 : ∀ w ∈ wsX20, w ∈ wsX2_makeFree := (fun w h => List.mem_cons_of_mem _ (List.mem_append_left _ (List.mem_append_left _ (List.mem_append_right _ h))))
  have hl := lv_entry ([.ref (bv_a G 0), .int (nI j), .ref (bv_a G (11 + j))]) (n := 3) (Nat.le_of_ble_eq_true rfl)
  rw [lg_entry_eq]
  generalize (lg_sl ([.ref (bv_a G 0), .int (nI j), .ref (bv_a G (11 + j))]) ++ List.replicate (3 - (lg_sl ([.ref (bv_a G 0), .int (nI j), .ref (bv_a G (11 + j))])).length) Slot.unset).toArray = ls at hl ⊢
  have hl : lv_has ls 3 [(0, .ref (bv_a G 0)), (1, .int (nI j)), (2, .ref (bv_a G (11 + j)))] := hl
  refine lv_aload_n hx hb dX2_makeFree_0 rfl (lv_at hl 2 rfl) ?_
  refine bv_cv (va_runVN (As := []) (rest := []) ⟨hx, hb, hml, hown, hts⟩ (c_X0_empty l G S M z j (by omega)) ⟨va_cnB (host := "BoxVault") 0 hts gX2_makeFree_X0_empty_n219 rfl rfl rfl (hE.1 _ (by decide +kernel)) wl0 (by decide +kernel) ⟨Nat.le_of_ble_eq_true rfl, Nat.le_of_ble_eq_true rfl⟩, wl1, wl2⟩ (bv_preV hz hP hK hE hS (ci := 0) (bv_cB G _ _ _ (hj)) rfl rfl) rfl rfl hl.1 rfl (lv_room (Nat.le_of_ble_eq_true rfl)) dX2_makeFree_1 ⟨Nat.le_of_ble_eq_true rfl, Nat.le_of_ble_eq_true rfl⟩) hS (fun H locs hP hS => ?_)
  refine lv_aload_n hx hb dX2_makeFree_4 rfl (lv_at hl 0 rfl) ?_
  refine bv_get_f (ci := 2) (C := RX2) (T := TX2) (N := 6) hx hb hts hin2 hown hK hP (bv_c0 G _ _ _) rfl 1 (by decide) wl3 rfl rfl dX2_makeFree_5 ?_
  refine lv_iload_n hx hb dX2_makeFree_8 rfl (lv_at hl 1 rfl) ?_
  refine bv_cv (va_runVN (As := [.int (nI j)]) (rest := []) ⟨hx, hb, hml, hown, hts⟩ (c_X1_endAllOn l G (bv_up (bv_up (bv_up S 9 j 0) 10 j (-1)) 15 j 0) M z (nI j) cn (hc) (ec)) ⟨va_cnB (host := "BoxVault") 1 hts gX2_makeFree_X1_endAllOn_n222 rfl rfl rfl (hE.1 _ (by decide +kernel)) wl4 (by decide +kernel) ⟨Nat.le_of_ble_eq_true rfl, Nat.le_of_ble_eq_true rfl⟩, wl5, wl6⟩ (bv_preV hz hP hK hE hS (ci := 1) (bv_c2 G _ _ _) rfl rfl) rfl rfl hl.1 rfl (lv_room (Nat.le_of_ble_eq_true rfl)) dX2_makeFree_9 ⟨Nat.le_of_ble_eq_true rfl, Nat.le_of_ble_eq_true rfl⟩) hS (fun H locs hP hS => ?_)
  exact bv_vret hx hb hr hlocks hS (Nat.le_of_ble_eq_true rfl) (Nat.le_of_ble_eq_true rfl) dX2_makeFree_12 hP
