set_option maxHeartbeats 4000000 in
set_option maxRecDepth 100000 in
theorem c_X3_pass (l : Launch) (G : bv_G) (S M : bv_X) (z : bv_Z) (n : Nat) (p0 : Int32) (hn : n ≤ 1000) (hI : bv_I n M) : bv_M l yX3_pass wsX3_pass ({ frames := 1, cells := 0, slots := 0, locals := 22 }) [.ref (bv_a G 43), .int p0] G S M z ((sp_pass M p0).2.1) S ((sp_pass M p0).2.2) ((sp_pass M p0).1, z.2) := by
  refine Met.ofW (cc := cX3_pass) (maxL := 2) (ret := (some .int)) (by decide) rfl ?_
  intro p e s m args below meth c s₁ B hml hv
  obtain ⟨rfl, hz, hP, hK, hE⟩ := hv
  have hx := B.exec
  have hb := B.bytes
  have hr := B.returns
  have hts := atoms_spec (ws := wsX3_pass) B.pre
  have hown : s.vm.findClass RX3 = some m.cls := findClass_of_methodNamed B.named
  have hlocks := B.notSynchronized
  have hS : va_S (bv_A G) s.heap s.heap [] := va_S.rf
  have wl0 := hts (.fieldLink RX3 65 "BoxVaultModel" "thrown" "I") (by decide +kernel)
  have wl1 := hts (.fieldLink RX3 73 "BoxVaultModel" "now" "I") (by decide +kernel)
  have wl2 := hts (.constant RX3 106 (99999)) (by decide +kernel)
  have hin3 : ∀ w ∈ wsX30, w ∈ wsX3_pass := (fun w h => List.mem_cons_of_mem _ (List.mem_append_right _ h))
  have hl := lv_entry ([.ref (bv_a G 43), .int p0]) (n := 2) (Nat.le_of_ble_eq_true rfl)
  rw [lg_entry_eq]
  generalize (lg_sl ([.ref (bv_a G 43), .int p0]) ++ List.replicate (2 - (lg_sl ([.ref (bv_a G 43), .int p0])).length) Slot.unset).toArray = ls at hl ⊢
  have hl : lv_has ls 2 [(0, .ref (bv_a G 43)), (1, .int p0)] := hl
  refine lv_aload_n hx hb dX3_pass_0 rfl (lv_at hl 0 rfl) ?_
  refine lv_iconst (v := 0) hx hb dX3_pass_1 (by decide) ?_
  refine bv_put_f (ci := 3) (C := RX3) (T := TX3) (N := 21) (ty := .int) hx hb hts hin3 tyX3 tyX3_ok nmX3 hown hK hP hS (bv_c43 G _ _ _) rfl 0 (by decide) wl0 rfl rfl rfl rfl rfl (Nat.le_of_ble_eq_true rfl) rfl (bv_sth G _ _ _ _) dX3_pass_2 (fun H locs hP hS => ?_)
  refine lv_iload_n hx hb dX3_pass_5 rfl (lv_at hl 1 rfl) ?_
  refine lv_iconst (v := 1) hx hb dX3_pass_6 (by decide) ?_
  refine lv_sipush (v := 1000) hx hb dX3_pass_7 (by decide) ?_
  refine bv_ci (va_runS (As := [.int p0, .int 1, .int 1000]) (rest := []) ⟨hx, hb, hml, hown, hts⟩ (c_X3_in l G S M (0, z.2) p0 1 1000 ) (va_cwS 3 hts gX3_pass_X3_in rfl rfl rfl (by decide +kernel) ⟨Nat.le_of_ble_eq_true rfl, Nat.le_of_ble_eq_true rfl⟩) (bv_preS hz hP hK hE hS) rfl rfl hl.1 rfl (lv_room (Nat.le_of_ble_eq_true rfl)) dX3_pass_10 ⟨Nat.le_of_ble_eq_true rfl, Nat.le_of_ble_eq_true rfl⟩) hS (fun H locs hP hS => ?_)
  refine bv_ifneB (tgt := 22) hx hb dX3_pass_13 (by decide) (fun c_1 => ?_) (fun c_1 => ?_)
  · have r_1 := bv_rb_t c_1
    refine lv_aload_n hx hb dX3_pass_22 rfl (lv_at hl 0 rfl) ?_
    refine bv_get_f (ci := 3) (C := RX3) (T := TX3) (N := 21) hx hb hts hin3 hown hK hP (bv_c43 G _ _ _) rfl 1 (by decide) wl1 rfl rfl dX3_pass_23 ?_
    refine lv_iload_n hx hb dX3_pass_26 rfl (lv_at hl 1 rfl) ?_
    refine lv_iadd hx hb dX3_pass_27 ?_
    refine lv_ldc hx hb hown wl2 dX3_pass_28 ?_
    refine lv_icmp_le (tgt := 39) hx hb dX3_pass_30 (by decide) (fun c_2 => ?_) (fun c_2 => ?_)
    · have c_2 : ((M 0 0) + p0) ≤ 99999 := c_2
      have c_f3 : ¬ 99999 < M 0 0 + p0 := bv_ln c_2
      refine lv_aload_n hx hb dX3_pass_39 rfl (lv_at hl 0 rfl) ?_
      refine lv_dup hx hb dX3_pass_40 rfl ?_
      refine bv_get_f (ci := 3) (C := RX3) (T := TX3) (N := 21) hx hb hts hin3 hown hK hP (bv_c43 G _ _ _) rfl 1 (by decide) wl1 rfl rfl dX3_pass_41 ?_
      refine lv_iload_n hx hb dX3_pass_44 rfl (lv_at hl 1 rfl) ?_
      refine lv_iadd hx hb dX3_pass_45 ?_
      refine bv_put_f (ci := 3) (C := RX3) (T := TX3) (N := 21) (ty := .int) hx hb hts hin3 tyX3 tyX3_ok nmX3 hown hK hP hS (bv_c43 G _ _ _) rfl 1 (by decide) wl1 rfl rfl rfl rfl rfl (Nat.le_of_ble_eq_true rfl) rfl (bv_snow G _ _ _ _) dX3_pass_46 (fun H locs hP hS => ?_)
      refine lv_aload_n hx hb dX3_pass_49 rfl (lv_at hl 0 rfl) ?_
      refine bv_get_f (ci := 3) (C := RX3) (T := TX3) (N := 21) hx hb hts hin3 hown hK hP (bv_c43 G _ _ _) rfl 1 (by decide) wl1 rfl rfl dX3_pass_50 ?_
      have hW : bv_H G S ((sp_pass M p0).2.2) ((sp_pass M p0).1, z.2) H := by
        rw [show (sp_pass M p0).2.2 = bv_up M 0 0 ((M 0 0) + p0) from by simp [sp_pass, r_1, c_f3, bv_nb, bv_up_at, bv_fr12, bv_fr13]]
        rw [show (sp_pass M p0).1 = 0 from by simp [sp_pass, r_1, c_f3, bv_nb, bv_up_at, bv_fr12, bv_fr13]]
        exact hP
      exact bv_iret hx hb hr hlocks hS (Nat.le_of_ble_eq_true rfl) (Nat.le_of_ble_eq_true rfl) dX3_pass_53 (by simp [sp_pass, r_1, c_f3, bv_nb, bv_up_at, bv_fr12, bv_fr13]) hW
    · have c_2 : ¬ ((M 0 0) + p0) ≤ 99999 := c_2
      have c_f4 : 99999 < M 0 0 + p0 := bv_nlt c_2
      refine lv_aload_n hx hb dX3_pass_33 rfl (lv_at hl 0 rfl) ?_
      refine lv_iconst (v := 2) hx hb dX3_pass_34 (by decide) ?_
      refine bv_ci (va_runV (As := [.int 2]) (rest := []) ⟨hx, hb, hml, hown, hts⟩ (c_X3_fails l G S M (0, z.2) 2 ) (cwV 1 hts gX3_pass_X3_fails rfl rfl rfl (by decide +kernel) ⟨Nat.le_of_ble_eq_true rfl, Nat.le_of_ble_eq_true rfl⟩) (bv_preV hz hP hK hE hS (ci := 3) (bv_c43 G _ _ _) rfl rfl) rfl rfl hl.1 rfl (lv_room (Nat.le_of_ble_eq_true rfl)) dX3_pass_35 ⟨Nat.le_of_ble_eq_true rfl, Nat.le_of_ble_eq_true rfl⟩) hS (fun H locs hP hS => ?_)
      have hW : bv_H G S ((sp_pass M p0).2.2) ((sp_pass M p0).1, z.2) H := by
        rw [show (sp_pass M p0).2.2 = M from by simp [sp_pass, r_1, c_f4, bv_nb, bv_up_at, bv_fr12, bv_fr13]]
        rw [show (sp_pass M p0).1 = 2 from by simp [sp_pass, r_1, c_f4, bv_nb, bv_up_at, bv_fr12, bv_fr13]]
        exact hP
      exact bv_iret hx hb hr hlocks hS (Nat.le_of_ble_eq_true rfl) (Nat.le_of_ble_eq_true rfl) dX3_pass_38 (by simp [sp_pass, r_1, c_f4, bv_nb, bv_up_at, bv_fr12, bv_fr13]) hW
  · have r_1 := bv_rb_f c_1
    refine lv_aload_n hx hb dX3_pass_16 rfl (lv_at hl 0 rfl) ?_
    refine lv_iconst (v := 1) hx hb dX3_pass_17 (by decide) ?_
    refine bv_ci (va_runV (As := [.int 1]) (rest := []) ⟨hx, hb, hml, hown, hts⟩ (c_X3_fails l G S M (0, z.2) 1 ) (cwV 1 hts gX3_pass_X3_fails rfl rfl rfl (by decide +kernel) ⟨Nat.le_of_ble_eq_true rfl, Nat.le_of_ble_eq_true rfl⟩) (bv_preV hz hP hK hE hS (ci := 3) (bv_c43 G _ _ _) rfl rfl) rfl rfl hl.1 rfl (lv_room (Nat.le_of_ble_eq_true rfl)) dX3_pass_18 ⟨Nat.le_of_ble_eq_true rfl, Nat.le_of_ble_eq_true rfl⟩) hS (fun H locs hP hS => ?_)
    have hW : bv_H G S ((sp_pass M p0).2.2) ((sp_pass M p0).1, z.2) H := by
      rw [show (sp_pass M p0).2.2 = M from by simp [sp_pass, r_1, bv_nb, bv_up_at, bv_fr12, bv_fr13]]
      rw [show (sp_pass M p0).1 = 1 from by simp [sp_pass, r_1, bv_nb, bv_up_at, bv_fr12, bv_fr13]]
      exact hP
    exact bv_iret hx hb hr hlocks hS (Nat.le_of_ble_eq_true rfl) (Nat.le_of_ble_eq_true rfl) dX3_pass_21 (by simp [sp_pass, r_1, bv_nb, bv_up_at, bv_fr12, bv_fr13]) hW
set_option maxHeartbeats 4000000 in
set_option maxRecDepth 100000 in
theorem c_X3_rent (l : Launch) (G : bv_G) (S M : bv_X) (z : bv_Z) (n : Nat) (p0 : Int32) (p1 : Int32) (p2 : Int32) (hn : n ≤ 1000) (hI : bv_I n M) : bv_M l yX3_rent wsX3_rent ({ frames := 2, cells := 0, slots := 0, locals := 42 }) [.ref (bv_a G 43), .int p0, .int p1, .int p2] G S M z ((sp_rent M p0 p1 p2).2.1) S ((sp_rent M p0 p1 p2).2.2) ((sp_rent M p0 p1 p2).1, z.2) := by
  refine Met.ofW (cc := cX3_rent) (maxL := 4) (ret := (some .int)) (by decide) rfl ?_
  intro p e s m args below meth c s₁ B hml hv
  obtain ⟨rfl, hz, hP, hK, hE⟩ := hv
  have hx := B.exec
  have hb := B.bytes
  have hr := B.returns
  have hts := atoms_spec (ws := wsX3_rent) B.pre
  have hown : s.vm.findClass RX3 = some m.cls := findClass_of_methodNamed B.named
  have hlocks := B.notSynchronized
  have hS : va_S (bv_A G) s.heap s.heap [] := va_S.rf
  have wl0 := hts (.fieldLink RX3 65 "BoxVaultModel" "thrown" "I") (by decide +kernel)
  have wl1 := hts (.fieldLink RX3 20 "BoxVaultModel" "state" "[I") (by decide +kernel)
  have wl2 := hts (.fieldLink RX3 7 "BoxVaultModel" "dead" "[Z") (by decide +kernel)
  have wl3 := hts (.fieldLink RX3 23 "BoxVaultModel" "holder" "[I") (by decide +kernel)
  have wl4 := hts (.fieldLink RX3 26 "BoxVaultModel" "paid" "[I") (by decide +kernel)
  have wl5 := hts (.fieldLink RX3 73 "BoxVaultModel" "now" "I") (by decide +kernel)
  have wl6 := hts (.fieldLink RX3 29 "BoxVaultModel" "entries" "[I") (by decide +kernel)
  have wl7 := hts (.fieldLink RX3 32 "BoxVaultModel" "looked" "[Z") (by decide +kernel)
  have hin3 : ∀ w ∈ wsX30, w ∈ wsX3_rent := (fun w h => List.mem_cons_of_mem _ (List.mem_append_right _ h))
  have hl := lv_entry ([.ref (bv_a G 43), .int p0, .int p1, .int p2]) (n := 4) (Nat.le_of_ble_eq_true rfl)
  rw [lg_entry_eq]
  generalize (lg_sl ([.ref (bv_a G 43), .int p0, .int p1, .int p2]) ++ List.replicate (4 - (lg_sl ([.ref (bv_a G 43), .int p0, .int p1, .int p2])).length) Slot.unset).toArray = ls at hl ⊢
  have hl : lv_has ls 4 [(0, .ref (bv_a G 43)), (1, .int p0), (2, .int p1), (3, .int p2)] := hl
  refine lv_aload_n hx hb dX3_rent_0 rfl (lv_at hl 0 rfl) ?_
  refine lv_iconst (v := 0) hx hb dX3_rent_1 (by decide) ?_
  refine bv_put_f (ci := 3) (C := RX3) (T := TX3) (N := 21) (ty := .int) hx hb hts hin3 tyX3 tyX3_ok nmX3 hown hK hP hS (bv_c43 G _ _ _) rfl 0 (by decide) wl0 rfl rfl rfl rfl rfl (Nat.le_of_ble_eq_true rfl) rfl (bv_sth G _ _ _ _) dX3_rent_2 (fun H locs hP hS => ?_)
  refine lv_iload_n hx hb dX3_rent_5 rfl (lv_at hl 1 rfl) ?_
  refine bv_ci (va_runS (As := [.int p0]) (rest := []) ⟨hx, hb, hml, hown, hts⟩ (c_X3_isBox l G S M (0, z.2) p0 ) (va_cwS 1 hts gX3_rent_X3_isBox rfl rfl rfl (by decide +kernel) ⟨Nat.le_of_ble_eq_true rfl, Nat.le_of_ble_eq_true rfl⟩) (bv_preS hz hP hK hE hS) rfl rfl hl.1 rfl (lv_room (Nat.le_of_ble_eq_true rfl)) dX3_rent_6 ⟨Nat.le_of_ble_eq_true rfl, Nat.le_of_ble_eq_true rfl⟩) hS (fun H locs hP hS => ?_)
  refine bv_ifeqB (tgt := 30) hx hb dX3_rent_9 (by decide) (fun c_1 => ?_) (fun c_1 => ?_)
  · have r_1 := bv_rb_f c_1
    refine lv_aload_n hx hb dX3_rent_30 rfl (lv_at hl 0 rfl) ?_
    refine lv_iconst (v := 1) hx hb dX3_rent_31 (by decide) ?_
    refine bv_ci (va_runV (As := [.int 1]) (rest := []) ⟨hx, hb, hml, hown, hts⟩ (c_X3_fails l G S M (0, z.2) 1 ) (cwV 1 hts gX3_rent_X3_fails rfl rfl rfl (by decide +kernel) ⟨Nat.le_of_ble_eq_true rfl, Nat.le_of_ble_eq_true rfl⟩) (bv_preV hz hP hK hE hS (ci := 3) (bv_c43 G _ _ _) rfl rfl) rfl rfl hl.1 rfl (lv_room (Nat.le_of_ble_eq_true rfl)) dX3_rent_32 ⟨Nat.le_of_ble_eq_true rfl, Nat.le_of_ble_eq_true rfl⟩) hS (fun H locs hP hS => ?_)
    have hW : bv_H G S ((sp_rent M p0 p1 p2).2.2) ((sp_rent M p0 p1 p2).1, z.2) H := by
      rw [show (sp_rent M p0 p1 p2).2.2 = M from by simp [sp_rent, r_1, bv_nb, bv_up_at, bv_fr12, bv_fr13]]
      rw [show (sp_rent M p0 p1 p2).1 = 1 from by simp [sp_rent, r_1, bv_nb, bv_up_at, bv_fr12, bv_fr13]]
      exact hP
    exact bv_iret hx hb hr hlocks hS (Nat.le_of_ble_eq_true rfl) (Nat.le_of_ble_eq_true rfl) dX3_rent_35 (by simp [sp_rent, r_1, bv_nb, bv_up_at, bv_fr12, bv_fr13]) hW
  · have r_1 := bv_rb_t c_1
    obtain ⟨j, hj, ej⟩ := bv_of8 c_1
    subst ej
    refine lv_iload_n hx hb dX3_rent_12 rfl (lv_at hl 2 rfl) ?_
    refine bv_ci (va_runS (As := [.int p1]) (rest := []) ⟨hx, hb, hml, hown, hts⟩ (c_X3_isPerson l G S M (0, z.2) p1 ) (va_cwS 1 hts gX3_rent_X3_isPerson rfl rfl rfl (by decide +kernel) ⟨Nat.le_of_ble_eq_true rfl, Nat.le_of_ble_eq_true rfl⟩) (bv_preS hz hP hK hE hS) rfl rfl hl.1 rfl (lv_room (Nat.le_of_ble_eq_true rfl)) dX3_rent_13 ⟨Nat.le_of_ble_eq_true rfl, Nat.le_of_ble_eq_true rfl⟩) hS (fun H locs hP hS => ?_)
    refine bv_ifeqB (tgt := 30) hx hb dX3_rent_16 (by decide) (fun c_2 => ?_) (fun c_2 => ?_)
    · have r_2 := bv_rb_f c_2
      refine lv_aload_n hx hb dX3_rent_30 rfl (lv_at hl 0 rfl) ?_
      refine lv_iconst (v := 1) hx hb dX3_rent_31 (by decide) ?_
      refine bv_ci (va_runV (As := [.int 1]) (rest := []) ⟨hx, hb, hml, hown, hts⟩ (c_X3_fails l G S M (0, z.2) 1 ) (cwV 1 hts gX3_rent_X3_fails rfl rfl rfl (by decide +kernel) ⟨Nat.le_of_ble_eq_true rfl, Nat.le_of_ble_eq_true rfl⟩) (bv_preV hz hP hK hE hS (ci := 3) (bv_c43 G _ _ _) rfl rfl) rfl rfl hl.1 rfl (lv_room (Nat.le_of_ble_eq_true rfl)) dX3_rent_32 ⟨Nat.le_of_ble_eq_true rfl, Nat.le_of_ble_eq_true rfl⟩) hS (fun H locs hP hS => ?_)
      have hW : bv_H G S ((sp_rent M (nI j) p1 p2).2.2) ((sp_rent M (nI j) p1 p2).1, z.2) H := by
        rw [show (sp_rent M (nI j) p1 p2).2.2 = M from by simp [sp_rent, r_1, bv_cl hj (by decide : 8 < 2 ^ 31), r_2, bv_nb, bv_up_at, bv_fr12, bv_fr13]]
        rw [show (sp_rent M (nI j) p1 p2).1 = 1 from by simp [sp_rent, r_1, bv_cl hj (by decide : 8 < 2 ^ 31), r_2, bv_nb, bv_up_at, bv_fr12, bv_fr13]]
        exact hP
      exact bv_iret hx hb hr hlocks hS (Nat.le_of_ble_eq_true rfl) (Nat.le_of_ble_eq_true rfl) dX3_rent_35 (by simp [sp_rent, r_1, bv_cl hj (by decide : 8 < 2 ^ 31), r_2, bv_nb, bv_up_at, bv_fr12, bv_fr13]) hW
    · have r_2 := bv_rb_t c_2
      obtain ⟨q, hq, ej⟩ := bv_of16 c_2
      subst ej
      refine lv_iload_n hx hb dX3_rent_19 rfl (lv_at hl 3 rfl) ?_
      refine lv_iconst (v := 1) hx hb dX3_rent_20 (by decide) ?_
      refine lv_sipush (v := 1000) hx hb dX3_rent_21 (by decide) ?_
      refine bv_ci (va_runS (As := [.int p2, .int 1, .int 1000]) (rest := []) ⟨hx, hb, hml, hown, hts⟩ (c_X3_in l G S M (0, z.2) p2 1 1000 ) (va_cwS 3 hts gX3_rent_X3_in rfl rfl rfl (by decide +kernel) ⟨Nat.le_of_ble_eq_true rfl, Nat.le_of_ble_eq_true rfl⟩) (bv_preS hz hP hK hE hS) rfl rfl hl.1 rfl (lv_room (Nat.le_of_ble_eq_true rfl)) dX3_rent_24 ⟨Nat.le_of_ble_eq_true rfl, Nat.le_of_ble_eq_true rfl⟩) hS (fun H locs hP hS => ?_)
      refine bv_ifneB (tgt := 36) hx hb dX3_rent_27 (by decide) (fun c_3 => ?_) (fun c_3 => ?_)
      · have r_3 := bv_rb_t c_3
        refine lv_aload_n hx hb dX3_rent_36 rfl (lv_at hl 0 rfl) ?_
        refine bv_get_f (ci := 3) (C := RX3) (T := TX3) (N := 21) hx hb hts hin3 hown hK hP (bv_c43 G _ _ _) rfl 5 (by decide) wl1 rfl rfl dX3_rent_37 ?_
        refine lv_iload_n hx hb dX3_rent_40 rfl (lv_at hl 1 rfl) ?_
        refine bv_iald hx hb hK hP 47 (bv_c47 G _ _ _) j (rfl) (hj) (by decide) dX3_rent_41 ?_
        refine lv_if_ne (tgt := 54) hx hb dX3_rent_42 (by decide) (fun c_4 => ?_) (fun c_4 => ?_)
        · have c_4 : ¬ (M 9 j) = 0 := c_4
          refine lv_aload_n hx hb dX3_rent_54 rfl (lv_at hl 0 rfl) ?_
          refine lv_iconst (v := 2) hx hb dX3_rent_55 (by decide) ?_
          refine bv_ci (va_runV (As := [.int 2]) (rest := []) ⟨hx, hb, hml, hown, hts⟩ (c_X3_fails l G S M (0, z.2) 2 ) (cwV 1 hts gX3_rent_X3_fails rfl rfl rfl (by decide +kernel) ⟨Nat.le_of_ble_eq_true rfl, Nat.le_of_ble_eq_true rfl⟩) (bv_preV hz hP hK hE hS (ci := 3) (bv_c43 G _ _ _) rfl rfl) rfl rfl hl.1 rfl (lv_room (Nat.le_of_ble_eq_true rfl)) dX3_rent_56 ⟨Nat.le_of_ble_eq_true rfl, Nat.le_of_ble_eq_true rfl⟩) hS (fun H locs hP hS => ?_)
          have hW : bv_H G S ((sp_rent M (nI j) (nI q) p2).2.2) ((sp_rent M (nI j) (nI q) p2).1, z.2) H := by
            rw [show (sp_rent M (nI j) (nI q) p2).2.2 = M from by simp [sp_rent, r_1, bv_cl hj (by decide : 8 < 2 ^ 31), r_2, bv_cl hq (by decide : 16 < 2 ^ 31), r_3, c_4, bv_nb, bv_up_at, bv_fr12, bv_fr13]]
            rw [show (sp_rent M (nI j) (nI q) p2).1 = 2 from by simp [sp_rent, r_1, bv_cl hj (by decide : 8 < 2 ^ 31), r_2, bv_cl hq (by decide : 16 < 2 ^ 31), r_3, c_4, bv_nb, bv_up_at, bv_fr12, bv_fr13]]
            exact hP
          exact bv_iret hx hb hr hlocks hS (Nat.le_of_ble_eq_true rfl) (Nat.le_of_ble_eq_true rfl) dX3_rent_59 (by simp [sp_rent, r_1, bv_cl hj (by decide : 8 < 2 ^ 31), r_2, bv_cl hq (by decide : 16 < 2 ^ 31), r_3, c_4, bv_nb, bv_up_at, bv_fr12, bv_fr13]) hW
        · have c_4 : (M 9 j) = 0 := c_4
          refine lv_aload_n hx hb dX3_rent_45 rfl (lv_at hl 0 rfl) ?_
          refine bv_get_f (ci := 3) (C := RX3) (T := TX3) (N := 21) hx hb hts hin3 hown hK hP (bv_c43 G _ _ _) rfl 2 (by decide) wl2 rfl rfl dX3_rent_46 ?_
          refine lv_iload_n hx hb dX3_rent_49 rfl (lv_at hl 2 rfl) ?_
          refine bv_zald hx hb hK hP 44 (bv_c44 G _ _ _) q (rfl) (hq) (by decide) dX3_rent_50 ?_
          refine lv_if_eq (tgt := 60) hx hb dX3_rent_51 (by decide) (fun c_5 => ?_) (fun c_5 => ?_)
          · have c_5 : (M 1 q) = 0 := c_5
            refine lv_aload_n hx hb dX3_rent_60 rfl (lv_at hl 0 rfl) ?_
            refine bv_get_f (ci := 3) (C := RX3) (T := TX3) (N := 21) hx hb hts hin3 hown hK hP (bv_c43 G _ _ _) rfl 5 (by decide) wl1 rfl rfl dX3_rent_61 ?_
            refine lv_iload_n hx hb dX3_rent_64 rfl (lv_at hl 1 rfl) ?_
            refine lv_iconst (v := 1) hx hb dX3_rent_65 (by decide) ?_
            refine bv_iast hx hb hK hP hS 47 (bv_c47 G _ _ _ ) j (rfl) (hj) (by decide) (bv_s47 G _ _ _ _ _) dX3_rent_66 (fun H locs hP hS => ?_)
            refine lv_aload_n hx hb dX3_rent_67 rfl (lv_at hl 0 rfl) ?_
            refine bv_get_f (ci := 3) (C := RX3) (T := TX3) (N := 21) hx hb hts hin3 hown hK hP (bv_c43 G _ _ _) rfl 6 (by decide) wl3 rfl rfl dX3_rent_68 ?_
            refine lv_iload_n hx hb dX3_rent_71 rfl (lv_at hl 1 rfl) ?_
            refine lv_iload_n hx hb dX3_rent_72 rfl (lv_at hl 2 rfl) ?_
            refine bv_iast hx hb hK hP hS 48 (bv_c48 G _ _ _ ) j (rfl) (hj) (by decide) (bv_s48 G _ _ _ _ _) dX3_rent_73 (fun H locs hP hS => ?_)
            refine lv_aload_n hx hb dX3_rent_74 rfl (lv_at hl 0 rfl) ?_
            refine bv_get_f (ci := 3) (C := RX3) (T := TX3) (N := 21) hx hb hts hin3 hown hK hP (bv_c43 G _ _ _) rfl 7 (by decide) wl4 rfl rfl dX3_rent_75 ?_
            refine lv_iload_n hx hb dX3_rent_78 rfl (lv_at hl 1 rfl) ?_
            refine lv_aload_n hx hb dX3_rent_79 rfl (lv_at hl 0 rfl) ?_
            refine bv_get_f (ci := 3) (C := RX3) (T := TX3) (N := 21) hx hb hts hin3 hown hK hP (bv_c43 G _ _ _) rfl 1 (by decide) wl5 rfl rfl dX3_rent_80 ?_
            refine lv_iload_n hx hb dX3_rent_83 rfl (lv_at hl 3 rfl) ?_
            refine lv_iadd hx hb dX3_rent_84 ?_
            refine bv_iast hx hb hK hP hS 49 (bv_c49 G _ _ _ ) j (rfl) (hj) (by decide) (bv_s49 G _ _ _ _ _) dX3_rent_85 (fun H locs hP hS => ?_)
            refine lv_aload_n hx hb dX3_rent_86 rfl (lv_at hl 0 rfl) ?_
            refine bv_get_f (ci := 3) (C := RX3) (T := TX3) (N := 21) hx hb hts hin3 hown hK hP (bv_c43 G _ _ _) rfl 8 (by decide) wl6 rfl rfl dX3_rent_87 ?_
            refine lv_iload_n hx hb dX3_rent_90 rfl (lv_at hl 1 rfl) ?_
            refine lv_iconst (v := 0) hx hb dX3_rent_91 (by decide) ?_
            refine bv_iast hx hb hK hP hS 50 (bv_c50 G _ _ _ ) j (rfl) (hj) (by decide) (bv_s50 G _ _ _ _ _) dX3_rent_92 (fun H locs hP hS => ?_)
            refine lv_aload_n hx hb dX3_rent_93 rfl (lv_at hl 0 rfl) ?_
            refine bv_get_f (ci := 3) (C := RX3) (T := TX3) (N := 21) hx hb hts hin3 hown hK hP (bv_c43 G _ _ _) rfl 9 (by decide) wl7 rfl rfl dX3_rent_94 ?_
            refine lv_iload_n hx hb dX3_rent_97 rfl (lv_at hl 1 rfl) ?_
            refine lv_iconst (v := 0) hx hb dX3_rent_98 (by decide) ?_
            refine bv_zast hx hb hK hP hS 51 (bv_c51 G _ _ _ ) j (rfl) (hj) (by decide) (rfl) (bv_s51 G _ _ _ _ _) dX3_rent_99 (fun H locs hP hS => ?_)
            refine lv_aload_n hx hb dX3_rent_100 rfl (lv_at hl 0 rfl) ?_
            refine bv_get_f (ci := 3) (C := RX3) (T := TX3) (N := 21) hx hb hts hin3 hown hK hP (bv_c43 G _ _ _) rfl 7 (by decide) wl4 rfl rfl dX3_rent_101 ?_
            refine lv_iload_n hx hb dX3_rent_104 rfl (lv_at hl 1 rfl) ?_
            refine bv_iald hx hb hK hP 49 (bv_c49 G _ _ _) j (rfl) (hj) (by decide) dX3_rent_105 ?_
            have hW : bv_H G S ((sp_rent M (nI j) (nI q) p2).2.2) ((sp_rent M (nI j) (nI q) p2).1, z.2) H := by
              rw [show (sp_rent M (nI j) (nI q) p2).2.2 = bv_up (bv_up (bv_up (bv_up (bv_up M 9 j 1) 10 j (nI q)) 11 j ((M 0 0) + p2)) 13 j 0) 14 j 0 from by simp [sp_rent, r_1, bv_cl hj (by decide : 8 < 2 ^ 31), r_2, bv_cl hq (by decide : 16 < 2 ^ 31), r_3, c_4, c_5, bv_nb, bv_up_at, bv_fr12, bv_fr13]]
              rw [show (sp_rent M (nI j) (nI q) p2).1 = 0 from by simp [sp_rent, r_1, bv_cl hj (by decide : 8 < 2 ^ 31), r_2, bv_cl hq (by decide : 16 < 2 ^ 31), r_3, c_4, c_5, bv_nb, bv_up_at, bv_fr12, bv_fr13]]
              exact hP
            exact bv_iret hx hb hr hlocks hS (Nat.le_of_ble_eq_true rfl) (Nat.le_of_ble_eq_true rfl) dX3_rent_106 (by simp [sp_rent, r_1, bv_cl hj (by decide : 8 < 2 ^ 31), r_2, bv_cl hq (by decide : 16 < 2 ^ 31), r_3, c_4, c_5, bv_nb, bv_up_at, bv_fr12, bv_fr13]) hW
          · have c_5 : ¬ (M 1 q) = 0 := c_5
            refine lv_aload_n hx hb dX3_rent_54 rfl (lv_at hl 0 rfl) ?_
            refine lv_iconst (v := 2) hx hb dX3_rent_55 (by decide) ?_
            refine bv_ci (va_runV (As := [.int 2]) (rest := []) ⟨hx, hb, hml, hown, hts⟩ (c_X3_fails l G S M (0, z.2) 2 ) (cwV 1 hts gX3_rent_X3_fails rfl rfl rfl (by decide +kernel) ⟨Nat.le_of_ble_eq_true rfl, Nat.le_of_ble_eq_true rfl⟩) (bv_preV hz hP hK hE hS (ci := 3) (bv_c43 G _ _ _) rfl rfl) rfl rfl hl.1 rfl (lv_room (Nat.le_of_ble_eq_true rfl)) dX3_rent_56 ⟨Nat.le_of_ble_eq_true rfl, Nat.le_of_ble_eq_true rfl⟩) hS (fun H locs hP hS => ?_)
            have hW : bv_H G S ((sp_rent M (nI j) (nI q) p2).2.2) ((sp_rent M (nI j) (nI q) p2).1, z.2) H := by
              rw [show (sp_rent M (nI j) (nI q) p2).2.2 = M from by simp [sp_rent, r_1, bv_cl hj (by decide : 8 < 2 ^ 31), r_2, bv_cl hq (by decide : 16 < 2 ^ 31), r_3, c_4, c_5, bv_nb, bv_up_at, bv_fr12, bv_fr13]]
              rw [show (sp_rent M (nI j) (nI q) p2).1 = 2 from by simp [sp_rent, r_1, bv_cl hj (by decide : 8 < 2 ^ 31), r_2, bv_cl hq (by decide : 16 < 2 ^ 31), r_3, c_4, c_5, bv_nb, bv_up_at, bv_fr12, bv_fr13]]
              exact hP
            exact bv_iret hx hb hr hlocks hS (Nat.le_of_ble_eq_true rfl) (Nat.le_of_ble_eq_true rfl) dX3_rent_59 (by simp [sp_rent, r_1, bv_cl hj (by decide : 8 < 2 ^ 31), r_2, bv_cl hq (by decide : 16 < 2 ^ 31), r_3, c_4, c_5, bv_nb, bv_up_at, bv_fr12, bv_fr13]) hW
      · have r_3 := bv_rb_f c_3
        refine lv_aload_n hx hb dX3_rent_30 rfl (lv_at hl 0 rfl) ?_
        refine lv_iconst (v := 1) hx hb dX3_rent_31 (by decide) ?_
        refine bv_ci (va_runV (As := [.int 1]) (rest := []) ⟨hx, hb, hml, hown, hts⟩ (c_X3_fails l G S M (0, z.2) 1 ) (cwV 1 hts gX3_rent_X3_fails rfl rfl rfl (by decide +kernel) ⟨Nat.le_of_ble_eq_true rfl, Nat.le_of_ble_eq_true rfl⟩) (bv_preV hz hP hK hE hS (ci := 3) (bv_c43 G _ _ _) rfl rfl) rfl rfl hl.1 rfl (lv_room (Nat.le_of_ble_eq_true rfl)) dX3_rent_32 ⟨Nat.le_of_ble_eq_true rfl, Nat.le_of_ble_eq_true rfl⟩) hS (fun H locs hP hS => ?_)
        have hW : bv_H G S ((sp_rent M (nI j) (nI q) p2).2.2) ((sp_rent M (nI j) (nI q) p2).1, z.2) H := by
          rw [show (sp_rent M (nI j) (nI q) p2).2.2 = M from by simp [sp_rent, r_1, bv_cl hj (by decide : 8 < 2 ^ 31), r_2, bv_cl hq (by decide : 16 < 2 ^ 31), r_3, bv_nb, bv_up_at, bv_fr12, bv_fr13]]
          rw [show (sp_rent M (nI j) (nI q) p2).1 = 1 from by simp [sp_rent, r_1, bv_cl hj (by decide : 8 < 2 ^ 31), r_2, bv_cl hq (by decide : 16 < 2 ^ 31), r_3, bv_nb, bv_up_at, bv_fr12, bv_fr13]]
          exact hP
        exact bv_iret hx hb hr hlocks hS (Nat.le_of_ble_eq_true rfl) (Nat.le_of_ble_eq_true rfl) dX3_rent_35 (by simp [sp_rent, r_1, bv_cl hj (by decide : 8 < 2 ^ 31), r_2, bv_cl hq (by decide : 16 < 2 ^ 31), r_3, bv_nb, bv_up_at, bv_fr12, bv_fr13]) hW
set_option maxHeartbeats 4000000 in
set_option maxRecDepth 100000 in
theorem c_X3_extend (l : Launch) (G : bv_G) (S M : bv_X) (z : bv_Z) (n : Nat) (p0 : Int32) (p1 : Int32) (hn : n ≤ 1000) (hI : bv_I n M) : bv_M l yX3_extend wsX3_extend ({ frames := 2, cells := 0, slots := 0, locals := 42 }) [.ref (bv_a G 43), .int p0, .int p1] G S M z ((sp_extend M p0 p1).2.1) S ((sp_extend M p0 p1).2.2) ((sp_extend M p0 p1).1, z.2) := by
  refine Met.ofW (cc := cX3_extend) (maxL := 3) (ret := (some .int)) (by decide) rfl ?_
  intro p e s m args below meth c s₁ B hml hv
  obtain ⟨rfl, hz, hP, hK, hE⟩ := hv
  have hx := B.exec
  have hb := B.bytes
  have hr := B.returns
  have hts := atoms_spec (ws := wsX3_extend) B.pre
  have hown : s.vm.findClass RX3 = some m.cls := findClass_of_methodNamed B.named
  have hlocks := B.notSynchronized
  have hS : va_S (bv_A G) s.heap s.heap [] := va_S.rf
  have wl0 := hts (.fieldLink RX3 65 "BoxVaultModel" "thrown" "I") (by decide +kernel)
  have wl1 := hts (.fieldLink RX3 26 "BoxVaultModel" "paid" "[I") (by decide +kernel)
  have hin3 : ∀ w ∈ wsX30, w ∈ wsX3_extend := (fun w h => List.mem_cons_of_mem _ (List.mem_append_right _ h))
  have hl := lv_entry ([.ref (bv_a G 43), .int p0, .int p1]) (n := 3) (Nat.le_of_ble_eq_true rfl)
  rw [lg_entry_eq]
  generalize (lg_sl ([.ref (bv_a G 43), .int p0, .int p1]) ++ List.replicate (3 - (lg_sl ([.ref (bv_a G 43), .int p0, .int p1])).length) Slot.unset).toArray = ls at hl ⊢
  have hl : lv_has ls 3 [(0, .ref (bv_a G 43)), (1, .int p0), (2, .int p1)] := hl
  refine lv_aload_n hx hb dX3_extend_0 rfl (lv_at hl 0 rfl) ?_
  refine lv_iconst (v := 0) hx hb dX3_extend_1 (by decide) ?_
  refine bv_put_f (ci := 3) (C := RX3) (T := TX3) (N := 21) (ty := .int) hx hb hts hin3 tyX3 tyX3_ok nmX3 hown hK hP hS (bv_c43 G _ _ _) rfl 0 (by decide) wl0 rfl rfl rfl rfl rfl (Nat.le_of_ble_eq_true rfl) rfl (bv_sth G _ _ _ _) dX3_extend_2 (fun H locs hP hS => ?_)
  refine lv_iload_n hx hb dX3_extend_5 rfl (lv_at hl 1 rfl) ?_
  refine bv_ci (va_runS (As := [.int p0]) (rest := []) ⟨hx, hb, hml, hown, hts⟩ (c_X3_isBox l G S M (0, z.2) p0 ) (va_cwS 1 hts gX3_extend_X3_isBox rfl rfl rfl (by decide +kernel) ⟨Nat.le_of_ble_eq_true rfl, Nat.le_of_ble_eq_true rfl⟩) (bv_preS hz hP hK hE hS) rfl rfl hl.1 rfl (lv_room (Nat.le_of_ble_eq_true rfl)) dX3_extend_6 ⟨Nat.le_of_ble_eq_true rfl, Nat.le_of_ble_eq_true rfl⟩) hS (fun H locs hP hS => ?_)
  refine bv_ifeqB (tgt := 23) hx hb dX3_extend_9 (by decide) (fun c_1 => ?_) (fun c_1 => ?_)
  · have r_1 := bv_rb_f c_1
    refine lv_aload_n hx hb dX3_extend_23 rfl (lv_at hl 0 rfl) ?_
    refine lv_iconst (v := 1) hx hb dX3_extend_24 (by decide) ?_
    refine bv_ci (va_runV (As := [.int 1]) (rest := []) ⟨hx, hb, hml, hown, hts⟩ (c_X3_fails l G S M (0, z.2) 1 ) (cwV 1 hts gX3_extend_X3_fails rfl rfl rfl (by decide +kernel) ⟨Nat.le_of_ble_eq_true rfl, Nat.le_of_ble_eq_true rfl⟩) (bv_preV hz hP hK hE hS (ci := 3) (bv_c43 G _ _ _) rfl rfl) rfl rfl hl.1 rfl (lv_room (Nat.le_of_ble_eq_true rfl)) dX3_extend_25 ⟨Nat.le_of_ble_eq_true rfl, Nat.le_of_ble_eq_true rfl⟩) hS (fun H locs hP hS => ?_)
    have hW : bv_H G S ((sp_extend M p0 p1).2.2) ((sp_extend M p0 p1).1, z.2) H := by
      rw [show (sp_extend M p0 p1).2.2 = M from by simp [sp_extend, r_1, bv_nb, bv_up_at, bv_fr12, bv_fr13]]
      rw [show (sp_extend M p0 p1).1 = 1 from by simp [sp_extend, r_1, bv_nb, bv_up_at, bv_fr12, bv_fr13]]
      exact hP
    exact bv_iret hx hb hr hlocks hS (Nat.le_of_ble_eq_true rfl) (Nat.le_of_ble_eq_true rfl) dX3_extend_28 (by simp [sp_extend, r_1, bv_nb, bv_up_at, bv_fr12, bv_fr13]) hW
  · have r_1 := bv_rb_t c_1
    obtain ⟨j, hj, ej⟩ := bv_of8 c_1
    subst ej
    refine lv_iload_n hx hb dX3_extend_12 rfl (lv_at hl 2 rfl) ?_
    refine lv_iconst (v := 1) hx hb dX3_extend_13 (by decide) ?_
    refine lv_sipush (v := 1000) hx hb dX3_extend_14 (by decide) ?_
    refine bv_ci (va_runS (As := [.int p1, .int 1, .int 1000]) (rest := []) ⟨hx, hb, hml, hown, hts⟩ (c_X3_in l G S M (0, z.2) p1 1 1000 ) (va_cwS 3 hts gX3_extend_X3_in rfl rfl rfl (by decide +kernel) ⟨Nat.le_of_ble_eq_true rfl, Nat.le_of_ble_eq_true rfl⟩) (bv_preS hz hP hK hE hS) rfl rfl hl.1 rfl (lv_room (Nat.le_of_ble_eq_true rfl)) dX3_extend_17 ⟨Nat.le_of_ble_eq_true rfl, Nat.le_of_ble_eq_true rfl⟩) hS (fun H locs hP hS => ?_)
    refine bv_ifneB (tgt := 29) hx hb dX3_extend_20 (by decide) (fun c_2 => ?_) (fun c_2 => ?_)
    · have r_2 := bv_rb_t c_2
      refine lv_aload_n hx hb dX3_extend_29 rfl (lv_at hl 0 rfl) ?_
      refine lv_iload_n hx hb dX3_extend_30 rfl (lv_at hl 1 rfl) ?_
      refine bv_ci (va_runV (As := [.int (nI j)]) (rest := []) ⟨hx, hb, hml, hown, hts⟩ (c_X3_isRented l G S M (0, z.2) j (by omega)) (cwV 1 hts gX3_extend_X3_isRented rfl rfl rfl (by decide +kernel) ⟨Nat.le_of_ble_eq_true rfl, Nat.le_of_ble_eq_true rfl⟩) (bv_preV hz hP hK hE hS (ci := 3) (bv_c43 G _ _ _) rfl rfl) rfl rfl hl.1 rfl (lv_room (Nat.le_of_ble_eq_true rfl)) dX3_extend_31 ⟨Nat.le_of_ble_eq_true rfl, Nat.le_of_ble_eq_true rfl⟩) hS (fun H locs hP hS => ?_)
      refine bv_ifneB (tgt := 43) hx hb dX3_extend_34 (by decide) (fun c_3 => ?_) (fun c_3 => ?_)
      · have c_3t := eq_true c_3
        refine lv_aload_n hx hb dX3_extend_43 rfl (lv_at hl 0 rfl) ?_
        refine bv_get_f (ci := 3) (C := RX3) (T := TX3) (N := 21) hx hb hts hin3 hown hK hP (bv_c43 G _ _ _) rfl 7 (by decide) wl1 rfl rfl dX3_extend_44 ?_
        refine lv_iload_n hx hb dX3_extend_47 rfl (lv_at hl 1 rfl) ?_
        refine lv_dup2_11 hx hb dX3_extend_48 rfl rfl ?_
        refine bv_iald hx hb hK hP 49 (bv_c49 G _ _ _) j (rfl) (hj) (by decide) dX3_extend_49 ?_
        refine lv_iload_n hx hb dX3_extend_50 rfl (lv_at hl 2 rfl) ?_
        refine lv_iadd hx hb dX3_extend_51 ?_
        refine bv_iast hx hb hK hP hS 49 (bv_c49 G _ _ _ ) j (rfl) (hj) (by decide) (bv_s49 G _ _ _ _ _) dX3_extend_52 (fun H locs hP hS => ?_)
        refine lv_aload_n hx hb dX3_extend_53 rfl (lv_at hl 0 rfl) ?_
        refine bv_get_f (ci := 3) (C := RX3) (T := TX3) (N := 21) hx hb hts hin3 hown hK hP (bv_c43 G _ _ _) rfl 7 (by decide) wl1 rfl rfl dX3_extend_54 ?_
        refine lv_iload_n hx hb dX3_extend_57 rfl (lv_at hl 1 rfl) ?_
        refine bv_iald hx hb hK hP 49 (bv_c49 G _ _ _) j (rfl) (hj) (by decide) dX3_extend_58 ?_
        have hW : bv_H G S ((sp_extend M (nI j) p1).2.2) ((sp_extend M (nI j) p1).1, z.2) H := by
          rw [show (sp_extend M (nI j) p1).2.2 = bv_up M 11 j ((M 11 j) + p1) from by simp [sp_extend, r_1, bv_cl hj (by decide : 8 < 2 ^ 31), r_2, c_3t, bv_nb, bv_up_at, bv_fr12, bv_fr13]]
          rw [show (sp_extend M (nI j) p1).1 = 0 from by simp [sp_extend, r_1, bv_cl hj (by decide : 8 < 2 ^ 31), r_2, c_3t, bv_nb, bv_up_at, bv_fr12, bv_fr13]]
          exact hP
        exact bv_iret hx hb hr hlocks hS (Nat.le_of_ble_eq_true rfl) (Nat.le_of_ble_eq_true rfl) dX3_extend_59 (by simp [sp_extend, r_1, bv_cl hj (by decide : 8 < 2 ^ 31), r_2, c_3t, bv_nb, bv_up_at, bv_fr12, bv_fr13]) hW
      · have c_3t := eq_false c_3
        refine lv_aload_n hx hb dX3_extend_37 rfl (lv_at hl 0 rfl) ?_
        refine lv_iconst (v := 2) hx hb dX3_extend_38 (by decide) ?_
        refine bv_ci (va_runV (As := [.int 2]) (rest := []) ⟨hx, hb, hml, hown, hts⟩ (c_X3_fails l G S M (0, z.2) 2 ) (cwV 1 hts gX3_extend_X3_fails rfl rfl rfl (by decide +kernel) ⟨Nat.le_of_ble_eq_true rfl, Nat.le_of_ble_eq_true rfl⟩) (bv_preV hz hP hK hE hS (ci := 3) (bv_c43 G _ _ _) rfl rfl) rfl rfl hl.1 rfl (lv_room (Nat.le_of_ble_eq_true rfl)) dX3_extend_39 ⟨Nat.le_of_ble_eq_true rfl, Nat.le_of_ble_eq_true rfl⟩) hS (fun H locs hP hS => ?_)
        have hW : bv_H G S ((sp_extend M (nI j) p1).2.2) ((sp_extend M (nI j) p1).1, z.2) H := by
          rw [show (sp_extend M (nI j) p1).2.2 = M from by simp [sp_extend, r_1, bv_cl hj (by decide : 8 < 2 ^ 31), r_2, c_3t, bv_nb, bv_up_at, bv_fr12, bv_fr13]]
          rw [show (sp_extend M (nI j) p1).1 = 2 from by simp [sp_extend, r_1, bv_cl hj (by decide : 8 < 2 ^ 31), r_2, c_3t, bv_nb, bv_up_at, bv_fr12, bv_fr13]]
          exact hP
        exact bv_iret hx hb hr hlocks hS (Nat.le_of_ble_eq_true rfl) (Nat.le_of_ble_eq_true rfl) dX3_extend_42 (by simp [sp_extend, r_1, bv_cl hj (by decide : 8 < 2 ^ 31), r_2, c_3t, bv_nb, bv_up_at, bv_fr12, bv_fr13]) hW
    · have r_2 := bv_rb_f c_2
      refine lv_aload_n hx hb dX3_extend_23 rfl (lv_at hl 0 rfl) ?_
      refine lv_iconst (v := 1) hx hb dX3_extend_24 (by decide) ?_
      refine bv_ci (va_runV (As := [.int 1]) (rest := []) ⟨hx, hb, hml, hown, hts⟩ (c_X3_fails l G S M (0, z.2) 1 ) (cwV 1 hts gX3_extend_X3_fails rfl rfl rfl (by decide +kernel) ⟨Nat.le_of_ble_eq_true rfl, Nat.le_of_ble_eq_true rfl⟩) (bv_preV hz hP hK hE hS (ci := 3) (bv_c43 G _ _ _) rfl rfl) rfl rfl hl.1 rfl (lv_room (Nat.le_of_ble_eq_true rfl)) dX3_extend_25 ⟨Nat.le_of_ble_eq_true rfl, Nat.le_of_ble_eq_true rfl⟩) hS (fun H locs hP hS => ?_)
      have hW : bv_H G S ((sp_extend M (nI j) p1).2.2) ((sp_extend M (nI j) p1).1, z.2) H := by
        rw [show (sp_extend M (nI j) p1).2.2 = M from by simp [sp_extend, r_1, bv_cl hj (by decide : 8 < 2 ^ 31), r_2, bv_nb, bv_up_at, bv_fr12, bv_fr13]]
        rw [show (sp_extend M (nI j) p1).1 = 1 from by simp [sp_extend, r_1, bv_cl hj (by decide : 8 < 2 ^ 31), r_2, bv_nb, bv_up_at, bv_fr12, bv_fr13]]
        exact hP
      exact bv_iret hx hb hr hlocks hS (Nat.le_of_ble_eq_true rfl) (Nat.le_of_ble_eq_true rfl) dX3_extend_28 (by simp [sp_extend, r_1, bv_cl hj (by decide : 8 < 2 ^ 31), r_2, bv_nb, bv_up_at, bv_fr12, bv_fr13]) hW
set_option maxHeartbeats 4000000 in
set_option maxRecDepth 100000 in
theorem c_X3_may (l : Launch) (G : bv_G) (S M : bv_X) (z : bv_Z) (n : Nat) (p0 : Int32) (p1 : Int32) (hn : n ≤ 1000) (hI : bv_I n M) : bv_M l yX3_may wsX3_may ({ frames := 3, cells := 0, slots := 0, locals := 69 }) [.ref (bv_a G 43), .int p0, .int p1] G S M z ((sp_may M p0 p1).2.1) S ((sp_may M p0 p1).2.2) ((sp_may M p0 p1).1, z.2) := by
  refine Met.ofW (cc := cX3_may) (maxL := 3) (ret := (some .int)) (by decide) rfl ?_
  intro p e s m args below meth c s₁ B hml hv
  obtain ⟨rfl, hz, hP, hK, hE⟩ := hv
  have hx := B.exec
  have hb := B.bytes
  have hr := B.returns
  have hts := atoms_spec (ws := wsX3_may) B.pre
  have hown : s.vm.findClass RX3 = some m.cls := findClass_of_methodNamed B.named
  have hlocks := B.notSynchronized
  have hS : va_S (bv_A G) s.heap s.heap [] := va_S.rf
  have wl0 := hts (.fieldLink RX3 65 "BoxVaultModel" "thrown" "I") (by decide +kernel)
  have hin3 : ∀ w ∈ wsX30, w ∈ wsX3_may := (fun w h => List.mem_cons_of_mem _ (List.mem_append_right _ h))
  have hl := lv_entry ([.ref (bv_a G 43), .int p0, .int p1]) (n := 3) (Nat.le_of_ble_eq_true rfl)
  rw [lg_entry_eq]
  generalize (lg_sl ([.ref (bv_a G 43), .int p0, .int p1]) ++ List.replicate (3 - (lg_sl ([.ref (bv_a G 43), .int p0, .int p1])).length) Slot.unset).toArray = ls at hl ⊢
  have hl : lv_has ls 3 [(0, .ref (bv_a G 43)), (1, .int p0), (2, .int p1)] := hl
  refine lv_aload_n hx hb dX3_may_0 rfl (lv_at hl 0 rfl) ?_
  refine lv_iconst (v := 0) hx hb dX3_may_1 (by decide) ?_
  refine bv_put_f (ci := 3) (C := RX3) (T := TX3) (N := 21) (ty := .int) hx hb hts hin3 tyX3 tyX3_ok nmX3 hown hK hP hS (bv_c43 G _ _ _) rfl 0 (by decide) wl0 rfl rfl rfl rfl rfl (Nat.le_of_ble_eq_true rfl) rfl (bv_sth G _ _ _ _) dX3_may_2 (fun H locs hP hS => ?_)
  refine lv_iload_n hx hb dX3_may_5 rfl (lv_at hl 1 rfl) ?_
  refine bv_ci (va_runS (As := [.int p0]) (rest := []) ⟨hx, hb, hml, hown, hts⟩ (c_X3_isBox l G S M (0, z.2) p0 ) (va_cwS 1 hts gX3_may_X3_isBox rfl rfl rfl (by decide +kernel) ⟨Nat.le_of_ble_eq_true rfl, Nat.le_of_ble_eq_true rfl⟩) (bv_preS hz hP hK hE hS) rfl rfl hl.1 rfl (lv_room (Nat.le_of_ble_eq_true rfl)) dX3_may_6 ⟨Nat.le_of_ble_eq_true rfl, Nat.le_of_ble_eq_true rfl⟩) hS (fun H locs hP hS => ?_)
  refine bv_ifeqB (tgt := 28) hx hb dX3_may_9 (by decide) (fun c_1 => ?_) (fun c_1 => ?_)
  · have r_1 := bv_rb_f c_1
    refine lv_aload_n hx hb dX3_may_28 rfl (lv_at hl 0 rfl) ?_
    refine lv_iconst (v := 1) hx hb dX3_may_29 (by decide) ?_
    refine bv_ci (va_runV (As := [.int 1]) (rest := []) ⟨hx, hb, hml, hown, hts⟩ (c_X3_fails l G S M (0, z.2) 1 ) (cwV 1 hts gX3_may_X3_fails rfl rfl rfl (by decide +kernel) ⟨Nat.le_of_ble_eq_true rfl, Nat.le_of_ble_eq_true rfl⟩) (bv_preV hz hP hK hE hS (ci := 3) (bv_c43 G _ _ _) rfl rfl) rfl rfl hl.1 rfl (lv_room (Nat.le_of_ble_eq_true rfl)) dX3_may_30 ⟨Nat.le_of_ble_eq_true rfl, Nat.le_of_ble_eq_true rfl⟩) hS (fun H locs hP hS => ?_)
    have hW : bv_H G S ((sp_may M p0 p1).2.2) ((sp_may M p0 p1).1, z.2) H := by
      rw [show (sp_may M p0 p1).2.2 = M from by simp [sp_may, r_1, bv_nb, bv_up_at, bv_fr12, bv_fr13]]
      rw [show (sp_may M p0 p1).1 = 1 from by simp [sp_may, r_1, bv_nb, bv_up_at, bv_fr12, bv_fr13]]
      exact hP
    exact bv_iret hx hb hr hlocks hS (Nat.le_of_ble_eq_true rfl) (Nat.le_of_ble_eq_true rfl) dX3_may_33 (by simp [sp_may, r_1, bv_nb, bv_up_at, bv_fr12, bv_fr13]) hW
  · have r_1 := bv_rb_t c_1
    obtain ⟨j, hj, ej⟩ := bv_of8 c_1
    subst ej
    refine lv_iload_n hx hb dX3_may_12 rfl (lv_at hl 2 rfl) ?_
    refine bv_ci (va_runS (As := [.int p1]) (rest := []) ⟨hx, hb, hml, hown, hts⟩ (c_X3_isPerson l G S M (0, z.2) p1 ) (va_cwS 1 hts gX3_may_X3_isPerson rfl rfl rfl (by decide +kernel) ⟨Nat.le_of_ble_eq_true rfl, Nat.le_of_ble_eq_true rfl⟩) (bv_preS hz hP hK hE hS) rfl rfl hl.1 rfl (lv_room (Nat.le_of_ble_eq_true rfl)) dX3_may_13 ⟨Nat.le_of_ble_eq_true rfl, Nat.le_of_ble_eq_true rfl⟩) hS (fun H locs hP hS => ?_)
    refine bv_ifeqB (tgt := 28) hx hb dX3_may_16 (by decide) (fun c_2 => ?_) (fun c_2 => ?_)
    · have r_2 := bv_rb_f c_2
      refine lv_aload_n hx hb dX3_may_28 rfl (lv_at hl 0 rfl) ?_
      refine lv_iconst (v := 1) hx hb dX3_may_29 (by decide) ?_
      refine bv_ci (va_runV (As := [.int 1]) (rest := []) ⟨hx, hb, hml, hown, hts⟩ (c_X3_fails l G S M (0, z.2) 1 ) (cwV 1 hts gX3_may_X3_fails rfl rfl rfl (by decide +kernel) ⟨Nat.le_of_ble_eq_true rfl, Nat.le_of_ble_eq_true rfl⟩) (bv_preV hz hP hK hE hS (ci := 3) (bv_c43 G _ _ _) rfl rfl) rfl rfl hl.1 rfl (lv_room (Nat.le_of_ble_eq_true rfl)) dX3_may_30 ⟨Nat.le_of_ble_eq_true rfl, Nat.le_of_ble_eq_true rfl⟩) hS (fun H locs hP hS => ?_)
      have hW : bv_H G S ((sp_may M (nI j) p1).2.2) ((sp_may M (nI j) p1).1, z.2) H := by
        rw [show (sp_may M (nI j) p1).2.2 = M from by simp [sp_may, r_1, bv_cl hj (by decide : 8 < 2 ^ 31), r_2, bv_nb, bv_up_at, bv_fr12, bv_fr13]]
        rw [show (sp_may M (nI j) p1).1 = 1 from by simp [sp_may, r_1, bv_cl hj (by decide : 8 < 2 ^ 31), r_2, bv_nb, bv_up_at, bv_fr12, bv_fr13]]
        exact hP
      exact bv_iret hx hb hr hlocks hS (Nat.le_of_ble_eq_true rfl) (Nat.le_of_ble_eq_true rfl) dX3_may_33 (by simp [sp_may, r_1, bv_cl hj (by decide : 8 < 2 ^ 31), r_2, bv_nb, bv_up_at, bv_fr12, bv_fr13]) hW
    · have r_2 := bv_rb_t c_2
      obtain ⟨q, hq, ej⟩ := bv_of16 c_2
      subst ej
      refine lv_aload_n hx hb dX3_may_19 rfl (lv_at hl 0 rfl) ?_
      refine lv_iload_n hx hb dX3_may_20 rfl (lv_at hl 1 rfl) ?_
      refine lv_iload_n hx hb dX3_may_21 rfl (lv_at hl 2 rfl) ?_
      refine bv_ci (va_runV (As := [.int (nI j), .int (nI q)]) (rest := []) ⟨hx, hb, hml, hown, hts⟩ (c_X3_right l G S M (0, z.2) n j q (hn) (hI) (by omega) (by omega)) (cwV 2 hts gX3_may_X3_right rfl rfl rfl (by decide +kernel) ⟨Nat.le_of_ble_eq_true rfl, Nat.le_of_ble_eq_true rfl⟩) (bv_preV hz hP hK hE hS (ci := 3) (bv_c43 G _ _ _) rfl rfl) rfl rfl hl.1 rfl (lv_room (Nat.le_of_ble_eq_true rfl)) dX3_may_22 ⟨Nat.le_of_ble_eq_true rfl, Nat.le_of_ble_eq_true rfl⟩) hS (fun H locs hP hS => ?_)
      refine lv_goto (tgt := 33) hx hb dX3_may_25 (by decide) ?_
      have hW : bv_H G S ((sp_may M (nI j) (nI q)).2.2) ((sp_may M (nI j) (nI q)).1, z.2) H := by
        rw [show (sp_may M (nI j) (nI q)).2.2 = M from by simp [sp_may, r_1, bv_cl hj (by decide : 8 < 2 ^ 31), r_2, bv_cl hq (by decide : 16 < 2 ^ 31), bv_nb, bv_up_at, bv_fr12, bv_fr13]]
        rw [show (sp_may M (nI j) (nI q)).1 = 0 from by simp [sp_may, r_1, bv_cl hj (by decide : 8 < 2 ^ 31), r_2, bv_cl hq (by decide : 16 < 2 ^ 31), bv_nb, bv_up_at, bv_fr12, bv_fr13]]
        exact hP
      exact bv_iret hx hb hr hlocks hS (Nat.le_of_ble_eq_true rfl) (Nat.le_of_ble_eq_true rfl) dX3_may_33 (by simp [sp_may, r_1, bv_cl hj (by decide : 8 < 2 ^ 31), r_2, bv_cl hq (by decide : 16 < 2 ^ 31), bv_nb, bv_up_at, bv_fr12, bv_fr13]) hW
set_option maxHeartbeats 4000000 in
set_option maxRecDepth 100000 in
theorem c_X3_refusals (l : Launch) (G : bv_G) (S M : bv_X) (z : bv_Z) (n : Nat) (p0 : Int32) (hn : n ≤ 1000) (hI : bv_I n M) : bv_M l yX3_refusals wsX3_refusals ({ frames := 2, cells := 0, slots := 0, locals := 42 }) [.ref (bv_a G 43), .int p0] G S M z ((sp_refusals M p0).2.1) S ((sp_refusals M p0).2.2) ((sp_refusals M p0).1, z.2) := by
  refine Met.ofW (cc := cX3_refusals) (maxL := 2) (ret := (some .int)) (by decide) rfl ?_
  intro p e s m args below meth c s₁ B hml hv
  obtain ⟨rfl, hz, hP, hK, hE⟩ := hv
  have hx := B.exec
  have hb := B.bytes
  have hr := B.returns
  have hts := atoms_spec (ws := wsX3_refusals) B.pre
  have hown : s.vm.findClass RX3 = some m.cls := findClass_of_methodNamed B.named
  have hlocks := B.notSynchronized
  have hS : va_S (bv_A G) s.heap s.heap [] := va_S.rf
  have wl0 := hts (.fieldLink RX3 65 "BoxVaultModel" "thrown" "I") (by decide +kernel)
  have wl1 := hts (.fieldLink RX3 17 "BoxVaultModel" "refusals" "[I") (by decide +kernel)
  have hin3 : ∀ w ∈ wsX30, w ∈ wsX3_refusals := (fun w h => List.mem_cons_of_mem _ (List.mem_append_right _ h))
  have hl := lv_entry ([.ref (bv_a G 43), .int p0]) (n := 2) (Nat.le_of_ble_eq_true rfl)
  rw [lg_entry_eq]
  generalize (lg_sl ([.ref (bv_a G 43), .int p0]) ++ List.replicate (2 - (lg_sl ([.ref (bv_a G 43), .int p0])).length) Slot.unset).toArray = ls at hl ⊢
  have hl : lv_has ls 2 [(0, .ref (bv_a G 43)), (1, .int p0)] := hl
  refine lv_aload_n hx hb dX3_refusals_0 rfl (lv_at hl 0 rfl) ?_
  refine lv_iconst (v := 0) hx hb dX3_refusals_1 (by decide) ?_
  refine bv_put_f (ci := 3) (C := RX3) (T := TX3) (N := 21) (ty := .int) hx hb hts hin3 tyX3 tyX3_ok nmX3 hown hK hP hS (bv_c43 G _ _ _) rfl 0 (by decide) wl0 rfl rfl rfl rfl rfl (Nat.le_of_ble_eq_true rfl) rfl (bv_sth G _ _ _ _) dX3_refusals_2 (fun H locs hP hS => ?_)
  refine lv_iload_n hx hb dX3_refusals_5 rfl (lv_at hl 1 rfl) ?_
  refine bv_ci (va_runS (As := [.int p0]) (rest := []) ⟨hx, hb, hml, hown, hts⟩ (c_X3_isPerson l G S M (0, z.2) p0 ) (va_cwS 1 hts gX3_refusals_X3_isPerson rfl rfl rfl (by decide +kernel) ⟨Nat.le_of_ble_eq_true rfl, Nat.le_of_ble_eq_true rfl⟩) (bv_preS hz hP hK hE hS) rfl rfl hl.1 rfl (lv_room (Nat.le_of_ble_eq_true rfl)) dX3_refusals_6 ⟨Nat.le_of_ble_eq_true rfl, Nat.le_of_ble_eq_true rfl⟩) hS (fun H locs hP hS => ?_)
  refine bv_ifeqB (tgt := 21) hx hb dX3_refusals_9 (by decide) (fun c_1 => ?_) (fun c_1 => ?_)
  · have r_1 := bv_rb_f c_1
    refine lv_aload_n hx hb dX3_refusals_21 rfl (lv_at hl 0 rfl) ?_
    refine lv_iconst (v := 1) hx hb dX3_refusals_22 (by decide) ?_
    refine bv_ci (va_runV (As := [.int 1]) (rest := []) ⟨hx, hb, hml, hown, hts⟩ (c_X3_fails l G S M (0, z.2) 1 ) (cwV 1 hts gX3_refusals_X3_fails rfl rfl rfl (by decide +kernel) ⟨Nat.le_of_ble_eq_true rfl, Nat.le_of_ble_eq_true rfl⟩) (bv_preV hz hP hK hE hS (ci := 3) (bv_c43 G _ _ _) rfl rfl) rfl rfl hl.1 rfl (lv_room (Nat.le_of_ble_eq_true rfl)) dX3_refusals_23 ⟨Nat.le_of_ble_eq_true rfl, Nat.le_of_ble_eq_true rfl⟩) hS (fun H locs hP hS => ?_)
    have hW : bv_H G S ((sp_refusals M p0).2.2) ((sp_refusals M p0).1, z.2) H := by
      rw [show (sp_refusals M p0).2.2 = M from by simp [sp_refusals, r_1, bv_nb, bv_up_at, bv_fr12, bv_fr13]]
      rw [show (sp_refusals M p0).1 = 1 from by simp [sp_refusals, r_1, bv_nb, bv_up_at, bv_fr12, bv_fr13]]
      exact hP
    exact bv_iret hx hb hr hlocks hS (Nat.le_of_ble_eq_true rfl) (Nat.le_of_ble_eq_true rfl) dX3_refusals_26 (by simp [sp_refusals, r_1, bv_nb, bv_up_at, bv_fr12, bv_fr13]) hW
  · have r_1 := bv_rb_t c_1
    obtain ⟨q, hq, ej⟩ := bv_of16 c_1
    subst ej
    refine lv_aload_n hx hb dX3_refusals_12 rfl (lv_at hl 0 rfl) ?_
    refine bv_get_f (ci := 3) (C := RX3) (T := TX3) (N := 21) hx hb hts hin3 hown hK hP (bv_c43 G _ _ _) rfl 4 (by decide) wl1 rfl rfl dX3_refusals_13 ?_
    refine lv_iload_n hx hb dX3_refusals_16 rfl (lv_at hl 1 rfl) ?_
    refine bv_iald hx hb hK hP 46 (bv_c46 G _ _ _) q (rfl) (hq) (by decide) dX3_refusals_17 ?_
    refine lv_goto (tgt := 26) hx hb dX3_refusals_18 (by decide) ?_
    have hW : bv_H G S ((sp_refusals M (nI q)).2.2) ((sp_refusals M (nI q)).1, z.2) H := by
      rw [show (sp_refusals M (nI q)).2.2 = M from by simp [sp_refusals, r_1, bv_cl hq (by decide : 16 < 2 ^ 31), bv_nb, bv_up_at, bv_fr12, bv_fr13]]
      rw [show (sp_refusals M (nI q)).1 = 0 from by simp [sp_refusals, r_1, bv_cl hq (by decide : 16 < 2 ^ 31), bv_nb, bv_up_at, bv_fr12, bv_fr13]]
      exact hP
    exact bv_iret hx hb hr hlocks hS (Nat.le_of_ble_eq_true rfl) (Nat.le_of_ble_eq_true rfl) dX3_refusals_26 (by simp [sp_refusals, r_1, bv_cl hq (by decide : 16 < 2 ^ 31), bv_nb, bv_up_at, bv_fr12, bv_fr13]) hW
set_option maxHeartbeats 4000000 in
set_option maxRecDepth 100000 in
theorem c_X3_holder (l : Launch) (G : bv_G) (S M : bv_X) (z : bv_Z) (n : Nat) (p0 : Int32) (hn : n ≤ 1000) (hI : bv_I n M) : bv_M l yX3_holder wsX3_holder ({ frames := 2, cells := 0, slots := 0, locals := 42 }) [.ref (bv_a G 43), .int p0] G S M z ((sp_holder M p0).2.1) S ((sp_holder M p0).2.2) ((sp_holder M p0).1, z.2) := by
  refine Met.ofW (cc := cX3_holder) (maxL := 2) (ret := (some .int)) (by decide) rfl ?_
  intro p e s m args below meth c s₁ B hml hv
  obtain ⟨rfl, hz, hP, hK, hE⟩ := hv
  have hx := B.exec
  have hb := B.bytes
  have hr := B.returns
  have hts := atoms_spec (ws := wsX3_holder) B.pre
  have hown : s.vm.findClass RX3 = some m.cls := findClass_of_methodNamed B.named
  have hlocks := B.notSynchronized
  have hS : va_S (bv_A G) s.heap s.heap [] := va_S.rf
  have wl0 := hts (.fieldLink RX3 65 "BoxVaultModel" "thrown" "I") (by decide +kernel)
  have wl1 := hts (.fieldLink RX3 20 "BoxVaultModel" "state" "[I") (by decide +kernel)
  have wl2 := hts (.fieldLink RX3 23 "BoxVaultModel" "holder" "[I") (by decide +kernel)
  have hin3 : ∀ w ∈ wsX30, w ∈ wsX3_holder := (fun w h => List.mem_cons_of_mem _ (List.mem_append_right _ h))
  have hl := lv_entry ([.ref (bv_a G 43), .int p0]) (n := 2) (Nat.le_of_ble_eq_true rfl)
  rw [lg_entry_eq]
  generalize (lg_sl ([.ref (bv_a G 43), .int p0]) ++ List.replicate (2 - (lg_sl ([.ref (bv_a G 43), .int p0])).length) Slot.unset).toArray = ls at hl ⊢
  have hl : lv_has ls 2 [(0, .ref (bv_a G 43)), (1, .int p0)] := hl
  refine lv_aload_n hx hb dX3_holder_0 rfl (lv_at hl 0 rfl) ?_
  refine lv_iconst (v := 0) hx hb dX3_holder_1 (by decide) ?_
  refine bv_put_f (ci := 3) (C := RX3) (T := TX3) (N := 21) (ty := .int) hx hb hts hin3 tyX3 tyX3_ok nmX3 hown hK hP hS (bv_c43 G _ _ _) rfl 0 (by decide) wl0 rfl rfl rfl rfl rfl (Nat.le_of_ble_eq_true rfl) rfl (bv_sth G _ _ _ _) dX3_holder_2 (fun H locs hP hS => ?_)
  refine lv_iload_n hx hb dX3_holder_5 rfl (lv_at hl 1 rfl) ?_
  refine bv_ci (va_runS (As := [.int p0]) (rest := []) ⟨hx, hb, hml, hown, hts⟩ (c_X3_isBox l G S M (0, z.2) p0 ) (va_cwS 1 hts gX3_holder_X3_isBox rfl rfl rfl (by decide +kernel) ⟨Nat.le_of_ble_eq_true rfl, Nat.le_of_ble_eq_true rfl⟩) (bv_preS hz hP hK hE hS) rfl rfl hl.1 rfl (lv_room (Nat.le_of_ble_eq_true rfl)) dX3_holder_6 ⟨Nat.le_of_ble_eq_true rfl, Nat.le_of_ble_eq_true rfl⟩) hS (fun H locs hP hS => ?_)
  refine bv_ifneB (tgt := 18) hx hb dX3_holder_9 (by decide) (fun c_1 => ?_) (fun c_1 => ?_)
  · have r_1 := bv_rb_t c_1
    obtain ⟨j, hj, ej⟩ := bv_of8 c_1
    subst ej
    refine lv_aload_n hx hb dX3_holder_18 rfl (lv_at hl 0 rfl) ?_
    refine bv_get_f (ci := 3) (C := RX3) (T := TX3) (N := 21) hx hb hts hin3 hown hK hP (bv_c43 G _ _ _) rfl 5 (by decide) wl1 rfl rfl dX3_holder_19 ?_
    refine lv_iload_n hx hb dX3_holder_22 rfl (lv_at hl 1 rfl) ?_
    refine bv_iald hx hb hK hP 47 (bv_c47 G _ _ _) j (rfl) (hj) (by decide) dX3_holder_23 ?_
    refine lv_if_ne (tgt := 31) hx hb dX3_holder_24 (by decide) (fun c_2 => ?_) (fun c_2 => ?_)
    · have c_2 : ¬ (M 9 j) = 0 := c_2
      refine lv_aload_n hx hb dX3_holder_31 rfl (lv_at hl 0 rfl) ?_
      refine bv_get_f (ci := 3) (C := RX3) (T := TX3) (N := 21) hx hb hts hin3 hown hK hP (bv_c43 G _ _ _) rfl 6 (by decide) wl2 rfl rfl dX3_holder_32 ?_
      refine lv_iload_n hx hb dX3_holder_35 rfl (lv_at hl 1 rfl) ?_
      refine bv_iald hx hb hK hP 48 (bv_c48 G _ _ _) j (rfl) (hj) (by decide) dX3_holder_36 ?_
      have hW : bv_H G S ((sp_holder M (nI j)).2.2) ((sp_holder M (nI j)).1, z.2) H := by
        rw [show (sp_holder M (nI j)).2.2 = M from by simp [sp_holder, r_1, bv_cl hj (by decide : 8 < 2 ^ 31), c_2, bv_nb, bv_up_at, bv_fr12, bv_fr13]]
        rw [show (sp_holder M (nI j)).1 = 0 from by simp [sp_holder, r_1, bv_cl hj (by decide : 8 < 2 ^ 31), c_2, bv_nb, bv_up_at, bv_fr12, bv_fr13]]
        exact hP
      exact bv_iret hx hb hr hlocks hS (Nat.le_of_ble_eq_true rfl) (Nat.le_of_ble_eq_true rfl) dX3_holder_37 (by simp [sp_holder, r_1, bv_cl hj (by decide : 8 < 2 ^ 31), c_2, bv_nb, bv_up_at, bv_fr12, bv_fr13]) hW
    · have c_2 : (M 9 j) = 0 := c_2
      refine lv_iconst (v := (-1)) hx hb dX3_holder_27 (by decide) ?_
      refine lv_goto (tgt := 37) hx hb dX3_holder_28 (by decide) ?_
      have hW : bv_H G S ((sp_holder M (nI j)).2.2) ((sp_holder M (nI j)).1, z.2) H := by
        rw [show (sp_holder M (nI j)).2.2 = M from by simp [sp_holder, r_1, bv_cl hj (by decide : 8 < 2 ^ 31), c_2, bv_nb, bv_up_at, bv_fr12, bv_fr13]]
        rw [show (sp_holder M (nI j)).1 = 0 from by simp [sp_holder, r_1, bv_cl hj (by decide : 8 < 2 ^ 31), c_2, bv_nb, bv_up_at, bv_fr12, bv_fr13]]
        exact hP
      exact bv_iret hx hb hr hlocks hS (Nat.le_of_ble_eq_true rfl) (Nat.le_of_ble_eq_true rfl) dX3_holder_37 (by simp [sp_holder, r_1, bv_cl hj (by decide : 8 < 2 ^ 31), c_2, bv_nb, bv_up_at, bv_fr12, bv_fr13]) hW
  · have r_1 := bv_rb_f c_1
    refine lv_aload_n hx hb dX3_holder_12 rfl (lv_at hl 0 rfl) ?_
    refine lv_iconst (v := 1) hx hb dX3_holder_13 (by decide) ?_
    refine bv_ci (va_runV (As := [.int 1]) (rest := []) ⟨hx, hb, hml, hown, hts⟩ (c_X3_fails l G S M (0, z.2) 1 ) (cwV 1 hts gX3_holder_X3_fails rfl rfl rfl (by decide +kernel) ⟨Nat.le_of_ble_eq_true rfl, Nat.le_of_ble_eq_true rfl⟩) (bv_preV hz hP hK hE hS (ci := 3) (bv_c43 G _ _ _) rfl rfl) rfl rfl hl.1 rfl (lv_room (Nat.le_of_ble_eq_true rfl)) dX3_holder_14 ⟨Nat.le_of_ble_eq_true rfl, Nat.le_of_ble_eq_true rfl⟩) hS (fun H locs hP hS => ?_)
    have hW : bv_H G S ((sp_holder M p0).2.2) ((sp_holder M p0).1, z.2) H := by
      rw [show (sp_holder M p0).2.2 = M from by simp [sp_holder, r_1, bv_nb, bv_up_at, bv_fr12, bv_fr13]]
      rw [show (sp_holder M p0).1 = 1 from by simp [sp_holder, r_1, bv_nb, bv_up_at, bv_fr12, bv_fr13]]
      exact hP
    exact bv_iret hx hb hr hlocks hS (Nat.le_of_ble_eq_true rfl) (Nat.le_of_ble_eq_true rfl) dX3_holder_17 (by simp [sp_holder, r_1, bv_nb, bv_up_at, bv_fr12, bv_fr13]) hW
set_option maxHeartbeats 4000000 in
set_option maxRecDepth 100000 in
theorem c_X3_notices (l : Launch) (G : bv_G) (S M : bv_X) (z : bv_Z) (n : Nat) (p0 : Int32) (hn : n ≤ 1000) (hI : bv_I n M) : bv_M l yX3_notices wsX3_notices ({ frames := 2, cells := 0, slots := 0, locals := 43 }) [.ref (bv_a G 43), .int p0] G S M z ((sp_notices M p0).2.1) S ((sp_notices M p0).2.2) ((sp_notices M p0).1, z.2) := by
  refine Met.ofW (cc := cX3_notices) (maxL := 2) (ret := (some .int)) (by decide) rfl ?_
  intro p e s m args below meth c s₁ B hml hv
  obtain ⟨rfl, hz, hP, hK, hE⟩ := hv
  have hx := B.exec
  have hb := B.bytes
  have hr := B.returns
  have hts := atoms_spec (ws := wsX3_notices) B.pre
  have hown : s.vm.findClass RX3 = some m.cls := findClass_of_methodNamed B.named
  have hlocks := B.notSynchronized
  have hS : va_S (bv_A G) s.heap s.heap [] := va_S.rf
  have wl0 := hts (.fieldLink RX3 65 "BoxVaultModel" "thrown" "I") (by decide +kernel)
  have hin3 : ∀ w ∈ wsX30, w ∈ wsX3_notices := (fun w h => List.mem_cons_of_mem _ (List.mem_append_right _ h))
  have hl := lv_entry ([.ref (bv_a G 43), .int p0]) (n := 2) (Nat.le_of_ble_eq_true rfl)
  rw [lg_entry_eq]
  generalize (lg_sl ([.ref (bv_a G 43), .int p0]) ++ List.replicate (2 - (lg_sl ([.ref (bv_a G 43), .int p0])).length) Slot.unset).toArray = ls at hl ⊢
  have hl : lv_has ls 2 [(0, .ref (bv_a G 43)), (1, .int p0)] := hl
  refine lv_aload_n hx hb dX3_notices_0 rfl (lv_at hl 0 rfl) ?_
  refine lv_iconst (v := 0) hx hb dX3_notices_1 (by decide) ?_
  refine bv_put_f (ci := 3) (C := RX3) (T := TX3) (N := 21) (ty := .int) hx hb hts hin3 tyX3 tyX3_ok nmX3 hown hK hP hS (bv_c43 G _ _ _) rfl 0 (by decide) wl0 rfl rfl rfl rfl rfl (Nat.le_of_ble_eq_true rfl) rfl (bv_sth G _ _ _ _) dX3_notices_2 (fun H locs hP hS => ?_)
  refine lv_iload_n hx hb dX3_notices_5 rfl (lv_at hl 1 rfl) ?_
  refine bv_ci (va_runS (As := [.int p0]) (rest := []) ⟨hx, hb, hml, hown, hts⟩ (c_X3_isBox l G S M (0, z.2) p0 ) (va_cwS 1 hts gX3_notices_X3_isBox rfl rfl rfl (by decide +kernel) ⟨Nat.le_of_ble_eq_true rfl, Nat.le_of_ble_eq_true rfl⟩) (bv_preS hz hP hK hE hS) rfl rfl hl.1 rfl (lv_room (Nat.le_of_ble_eq_true rfl)) dX3_notices_6 ⟨Nat.le_of_ble_eq_true rfl, Nat.le_of_ble_eq_true rfl⟩) hS (fun H locs hP hS => ?_)
  refine bv_ifeqB (tgt := 20) hx hb dX3_notices_9 (by decide) (fun c_1 => ?_) (fun c_1 => ?_)
  · have r_1 := bv_rb_f c_1
    refine lv_aload_n hx hb dX3_notices_20 rfl (lv_at hl 0 rfl) ?_
    refine lv_iconst (v := 1) hx hb dX3_notices_21 (by decide) ?_
    refine bv_ci (va_runV (As := [.int 1]) (rest := []) ⟨hx, hb, hml, hown, hts⟩ (c_X3_fails l G S M (0, z.2) 1 ) (cwV 1 hts gX3_notices_X3_fails rfl rfl rfl (by decide +kernel) ⟨Nat.le_of_ble_eq_true rfl, Nat.le_of_ble_eq_true rfl⟩) (bv_preV hz hP hK hE hS (ci := 3) (bv_c43 G _ _ _) rfl rfl) rfl rfl hl.1 rfl (lv_room (Nat.le_of_ble_eq_true rfl)) dX3_notices_22 ⟨Nat.le_of_ble_eq_true rfl, Nat.le_of_ble_eq_true rfl⟩) hS (fun H locs hP hS => ?_)
    have hW : bv_H G S ((sp_notices M p0).2.2) ((sp_notices M p0).1, z.2) H := by
      rw [show (sp_notices M p0).2.2 = M from by simp [sp_notices, r_1, bv_nb, bv_up_at, bv_fr12, bv_fr13]]
      rw [show (sp_notices M p0).1 = 1 from by simp [sp_notices, r_1, bv_nb, bv_up_at, bv_fr12, bv_fr13]]
      exact hP
    exact bv_iret hx hb hr hlocks hS (Nat.le_of_ble_eq_true rfl) (Nat.le_of_ble_eq_true rfl) dX3_notices_25 (by simp [sp_notices, r_1, bv_nb, bv_up_at, bv_fr12, bv_fr13]) hW
  · have r_1 := bv_rb_t c_1
    obtain ⟨j, hj, ej⟩ := bv_of8 c_1
    subst ej
    refine lv_aload_n hx hb dX3_notices_12 rfl (lv_at hl 0 rfl) ?_
    refine lv_iload_n hx hb dX3_notices_13 rfl (lv_at hl 1 rfl) ?_
    refine bv_ci (va_runV (As := [.int (nI j)]) (rest := []) ⟨hx, hb, hml, hown, hts⟩ (c_X3_noticesOf l G S M (0, z.2) j (by omega)) (cwV 1 hts gX3_notices_X3_noticesOf rfl rfl rfl (by decide +kernel) ⟨Nat.le_of_ble_eq_true rfl, Nat.le_of_ble_eq_true rfl⟩) (bv_preV hz hP hK hE hS (ci := 3) (bv_c43 G _ _ _) rfl rfl) rfl rfl hl.1 rfl (lv_room (Nat.le_of_ble_eq_true rfl)) dX3_notices_14 ⟨Nat.le_of_ble_eq_true rfl, Nat.le_of_ble_eq_true rfl⟩) hS (fun H locs hP hS => ?_)
    refine lv_goto (tgt := 25) hx hb dX3_notices_17 (by decide) ?_
    have hW : bv_H G S ((sp_notices M (nI j)).2.2) ((sp_notices M (nI j)).1, z.2) H := by
      rw [show (sp_notices M (nI j)).2.2 = M from by simp [sp_notices, r_1, bv_cl hj (by decide : 8 < 2 ^ 31), bv_nb, bv_up_at, bv_fr12, bv_fr13]]
      rw [show (sp_notices M (nI j)).1 = 0 from by simp [sp_notices, r_1, bv_cl hj (by decide : 8 < 2 ^ 31), bv_nb, bv_up_at, bv_fr12, bv_fr13]]
      exact hP
    exact bv_iret hx hb hr hlocks hS (Nat.le_of_ble_eq_true rfl) (Nat.le_of_ble_eq_true rfl) dX3_notices_25 (by simp [sp_notices, r_1, bv_cl hj (by decide : 8 < 2 ^ 31), bv_nb, bv_up_at, bv_fr12, bv_fr13]) hW
set_option maxHeartbeats 4000000 in
set_option maxRecDepth 100000 in
theorem c_X3_binding (l : Launch) (G : bv_G) (S M : bv_X) (z : bv_Z) (n : Nat) (p0 : Int32) (hn : n ≤ 1000) (hI : bv_I n M) : bv_M l yX3_binding wsX3_binding ({ frames := 2, cells := 0, slots := 0, locals := 42 }) [.ref (bv_a G 43), .int p0] G S M z ((sp_binding M p0).2.1) S ((sp_binding M p0).2.2) ((sp_binding M p0).1, z.2) := by
  refine Met.ofW (cc := cX3_binding) (maxL := 2) (ret := (some .int)) (by decide) rfl ?_
  intro p e s m args below meth c s₁ B hml hv
  obtain ⟨rfl, hz, hP, hK, hE⟩ := hv
  have hx := B.exec
  have hb := B.bytes
  have hr := B.returns
  have hts := atoms_spec (ws := wsX3_binding) B.pre
  have hown : s.vm.findClass RX3 = some m.cls := findClass_of_methodNamed B.named
  have hlocks := B.notSynchronized
  have hS : va_S (bv_A G) s.heap s.heap [] := va_S.rf
  have wl0 := hts (.fieldLink RX3 65 "BoxVaultModel" "thrown" "I") (by decide +kernel)
  have hin3 : ∀ w ∈ wsX30, w ∈ wsX3_binding := (fun w h => List.mem_cons_of_mem _ (List.mem_append_right _ h))
  have hl := lv_entry ([.ref (bv_a G 43), .int p0]) (n := 2) (Nat.le_of_ble_eq_true rfl)
  rw [lg_entry_eq]
  generalize (lg_sl ([.ref (bv_a G 43), .int p0]) ++ List.replicate (2 - (lg_sl ([.ref (bv_a G 43), .int p0])).length) Slot.unset).toArray = ls at hl ⊢
  have hl : lv_has ls 2 [(0, .ref (bv_a G 43)), (1, .int p0)] := hl
  obtain ⟨cn, hc, ec⟩ := bv_I_cnt hI
  refine lv_aload_n hx hb dX3_binding_0 rfl (lv_at hl 0 rfl) ?_
  refine lv_iconst (v := 0) hx hb dX3_binding_1 (by decide) ?_
  refine bv_put_f (ci := 3) (C := RX3) (T := TX3) (N := 21) (ty := .int) hx hb hts hin3 tyX3 tyX3_ok nmX3 hown hK hP hS (bv_c43 G _ _ _) rfl 0 (by decide) wl0 rfl rfl rfl rfl rfl (Nat.le_of_ble_eq_true rfl) rfl (bv_sth G _ _ _ _) dX3_binding_2 (fun H locs hP hS => ?_)
  refine lv_iload_n hx hb dX3_binding_5 rfl (lv_at hl 1 rfl) ?_
  refine bv_ci (va_runS (As := [.int p0]) (rest := []) ⟨hx, hb, hml, hown, hts⟩ (c_X3_isBox l G S M (0, z.2) p0 ) (va_cwS 1 hts gX3_binding_X3_isBox rfl rfl rfl (by decide +kernel) ⟨Nat.le_of_ble_eq_true rfl, Nat.le_of_ble_eq_true rfl⟩) (bv_preS hz hP hK hE hS) rfl rfl hl.1 rfl (lv_room (Nat.le_of_ble_eq_true rfl)) dX3_binding_6 ⟨Nat.le_of_ble_eq_true rfl, Nat.le_of_ble_eq_true rfl⟩) hS (fun H locs hP hS => ?_)
  refine bv_ifeqB (tgt := 20) hx hb dX3_binding_9 (by decide) (fun c_1 => ?_) (fun c_1 => ?_)
  · have r_1 := bv_rb_f c_1
    refine lv_aload_n hx hb dX3_binding_20 rfl (lv_at hl 0 rfl) ?_
    refine lv_iconst (v := 1) hx hb dX3_binding_21 (by decide) ?_
    refine bv_ci (va_runV (As := [.int 1]) (rest := []) ⟨hx, hb, hml, hown, hts⟩ (c_X3_fails l G S M (0, z.2) 1 ) (cwV 1 hts gX3_binding_X3_fails rfl rfl rfl (by decide +kernel) ⟨Nat.le_of_ble_eq_true rfl, Nat.le_of_ble_eq_true rfl⟩) (bv_preV hz hP hK hE hS (ci := 3) (bv_c43 G _ _ _) rfl rfl) rfl rfl hl.1 rfl (lv_room (Nat.le_of_ble_eq_true rfl)) dX3_binding_22 ⟨Nat.le_of_ble_eq_true rfl, Nat.le_of_ble_eq_true rfl⟩) hS (fun H locs hP hS => ?_)
    have hW : bv_H G S ((sp_binding M p0).2.2) ((sp_binding M p0).1, z.2) H := by
      rw [show (sp_binding M p0).2.2 = M from by simp [sp_binding, r_1, bv_nb, bv_up_at, bv_fr12, bv_fr13]]
      rw [show (sp_binding M p0).1 = 1 from by simp [sp_binding, r_1, bv_nb, bv_up_at, bv_fr12, bv_fr13]]
      exact hP
    exact bv_iret hx hb hr hlocks hS (Nat.le_of_ble_eq_true rfl) (Nat.le_of_ble_eq_true rfl) dX3_binding_25 (by simp [sp_binding, r_1, bv_nb, bv_up_at, bv_fr12, bv_fr13]) hW
  · have r_1 := bv_rb_t c_1
    obtain ⟨j, hj, ej⟩ := bv_of8 c_1
    subst ej
    refine lv_aload_n hx hb dX3_binding_12 rfl (lv_at hl 0 rfl) ?_
    refine lv_iload_n hx hb dX3_binding_13 rfl (lv_at hl 1 rfl) ?_
    refine bv_ci (va_runV (As := [.int (nI j)]) (rest := []) ⟨hx, hb, hml, hown, hts⟩ (c_X3_binds l G S M (0, z.2) (nI j) cn (hc) (ec)) (cwV 1 hts gX3_binding_X3_binds rfl rfl rfl (by decide +kernel) ⟨Nat.le_of_ble_eq_true rfl, Nat.le_of_ble_eq_true rfl⟩) (bv_preV hz hP hK hE hS (ci := 3) (bv_c43 G _ _ _) rfl rfl) rfl rfl hl.1 rfl (lv_room (Nat.le_of_ble_eq_true rfl)) dX3_binding_14 ⟨Nat.le_of_ble_eq_true rfl, Nat.le_of_ble_eq_true rfl⟩) hS (fun H locs hP hS => ?_)
    refine bv_eqi (y := bv_bd M (nI j)) (bv_bd_c ec hc) ?_
    refine lv_goto (tgt := 25) hx hb dX3_binding_17 (by decide) ?_
    have hW : bv_H G S ((sp_binding M (nI j)).2.2) ((sp_binding M (nI j)).1, z.2) H := by
      rw [show (sp_binding M (nI j)).2.2 = M from by simp [sp_binding, r_1, bv_cl hj (by decide : 8 < 2 ^ 31), bv_nb, bv_up_at, bv_fr12, bv_fr13]]
      rw [show (sp_binding M (nI j)).1 = 0 from by simp [sp_binding, r_1, bv_cl hj (by decide : 8 < 2 ^ 31), bv_nb, bv_up_at, bv_fr12, bv_fr13]]
      exact hP
    exact bv_iret hx hb hr hlocks hS (Nat.le_of_ble_eq_true rfl) (Nat.le_of_ble_eq_true rfl) dX3_binding_25 (by simp [sp_binding, r_1, bv_cl hj (by decide : 8 < 2 ^ 31), bv_nb, bv_up_at, bv_fr12, bv_fr13]) hW
set_option maxHeartbeats 4000000 in
set_option maxRecDepth 100000 in
theorem c_X3_giveBack (l : Launch) (G : bv_G) (S M : bv_X) (z : bv_Z) (n : Nat) (p0 : Int32) (p1 : Int32) (hn : n ≤ 1000) (hI : bv_I n M) : bv_M l yX3_giveBack wsX3_giveBack ({ frames := 3, cells := 0, slots := 0, locals := 69 }) [.ref (bv_a G 43), .int p0, .int p1] G S M z ((sp_giveBack M p0 p1).2.1) S ((sp_giveBack M p0 p1).2.2) ((sp_giveBack M p0 p1).1, z.2) := by
  refine Met.ofW (cc := cX3_giveBack) (maxL := 3) (ret := (some .int)) (by decide) rfl ?_
  intro p e s m args below meth c s₁ B hml hv
  obtain ⟨rfl, hz, hP, hK, hE⟩ := hv
  have hx := B.exec
  have hb := B.bytes
  have hr := B.returns
  have hts := atoms_spec (ws := wsX3_giveBack) B.pre
  have hown : s.vm.findClass RX3 = some m.cls := findClass_of_methodNamed B.named
  have hlocks := B.notSynchronized
  have hS : va_S (bv_A G) s.heap s.heap [] := va_S.rf
  have wl0 := hts (.fieldLink RX3 65 "BoxVaultModel" "thrown" "I") (by decide +kernel)
  have wl1 := hts (.fieldLink RX3 29 "BoxVaultModel" "entries" "[I") (by decide +kernel)
  have hin3 : ∀ w ∈ wsX30, w ∈ wsX3_giveBack := (fun w h => List.mem_cons_of_mem _ (List.mem_append_right _ h))
  have hl := lv_entry ([.ref (bv_a G 43), .int p0, .int p1]) (n := 3) (Nat.le_of_ble_eq_true rfl)
  rw [lg_entry_eq]
  generalize (lg_sl ([.ref (bv_a G 43), .int p0, .int p1]) ++ List.replicate (3 - (lg_sl ([.ref (bv_a G 43), .int p0, .int p1])).length) Slot.unset).toArray = ls at hl ⊢
  have hl : lv_has ls 3 [(0, .ref (bv_a G 43)), (1, .int p0), (2, .int p1)] := hl
  obtain ⟨cn, hc, ec⟩ := bv_I_cnt hI
  have ecn : (M 0 1).toNatClampNeg = cn := by rw [ec]; exact nI_clamp (by omega)
  refine lv_aload_n hx hb dX3_giveBack_0 rfl (lv_at hl 0 rfl) ?_
  refine lv_iconst (v := 0) hx hb dX3_giveBack_1 (by decide) ?_
  refine bv_put_f (ci := 3) (C := RX3) (T := TX3) (N := 21) (ty := .int) hx hb hts hin3 tyX3 tyX3_ok nmX3 hown hK hP hS (bv_c43 G _ _ _) rfl 0 (by decide) wl0 rfl rfl rfl rfl rfl (Nat.le_of_ble_eq_true rfl) rfl (bv_sth G _ _ _ _) dX3_giveBack_2 (fun H locs hP hS => ?_)
  refine lv_iload_n hx hb dX3_giveBack_5 rfl (lv_at hl 1 rfl) ?_
  refine bv_ci (va_runS (As := [.int p0]) (rest := []) ⟨hx, hb, hml, hown, hts⟩ (c_X3_isBox l G S M (0, z.2) p0 ) (va_cwS 1 hts gX3_giveBack_X3_isBox rfl rfl rfl (by decide +kernel) ⟨Nat.le_of_ble_eq_true rfl, Nat.le_of_ble_eq_true rfl⟩) (bv_preS hz hP hK hE hS) rfl rfl hl.1 rfl (lv_room (Nat.le_of_ble_eq_true rfl)) dX3_giveBack_6 ⟨Nat.le_of_ble_eq_true rfl, Nat.le_of_ble_eq_true rfl⟩) hS (fun H locs hP hS => ?_)
  refine bv_ifeqB (tgt := 19) hx hb dX3_giveBack_9 (by decide) (fun c_1 => ?_) (fun c_1 => ?_)
  · have r_1 := bv_rb_f c_1
    refine lv_aload_n hx hb dX3_giveBack_19 rfl (lv_at hl 0 rfl) ?_
    refine lv_iconst (v := 1) hx hb dX3_giveBack_20 (by decide) ?_
    refine bv_ci (va_runV (As := [.int 1]) (rest := []) ⟨hx, hb, hml, hown, hts⟩ (c_X3_fails l G S M (0, z.2) 1 ) (cwV 1 hts gX3_giveBack_X3_fails rfl rfl rfl (by decide +kernel) ⟨Nat.le_of_ble_eq_true rfl, Nat.le_of_ble_eq_true rfl⟩) (bv_preV hz hP hK hE hS (ci := 3) (bv_c43 G _ _ _) rfl rfl) rfl rfl hl.1 rfl (lv_room (Nat.le_of_ble_eq_true rfl)) dX3_giveBack_21 ⟨Nat.le_of_ble_eq_true rfl, Nat.le_of_ble_eq_true rfl⟩) hS (fun H locs hP hS => ?_)
    have hW : bv_H G S ((sp_giveBack M p0 p1).2.2) ((sp_giveBack M p0 p1).1, z.2) H := by
      rw [show (sp_giveBack M p0 p1).2.2 = M from by simp [sp_giveBack, r_1, bv_nb, bv_up_at, bv_fr12, bv_fr13, bv_free, ecn]]
      rw [show (sp_giveBack M p0 p1).1 = 1 from by simp [sp_giveBack, r_1, bv_nb, bv_up_at, bv_fr12, bv_fr13, bv_free, ecn]]
      exact hP
    exact bv_iret hx hb hr hlocks hS (Nat.le_of_ble_eq_true rfl) (Nat.le_of_ble_eq_true rfl) dX3_giveBack_24 (by simp [sp_giveBack, r_1, bv_nb, bv_up_at, bv_fr12, bv_fr13, bv_free, ecn]) hW
  · have r_1 := bv_rb_t c_1
    obtain ⟨j, hj, ej⟩ := bv_of8 c_1
    subst ej
    refine lv_iload_n hx hb dX3_giveBack_12 rfl (lv_at hl 2 rfl) ?_
    refine bv_ci (va_runS (As := [.int p1]) (rest := []) ⟨hx, hb, hml, hown, hts⟩ (c_X3_isPerson l G S M (0, z.2) p1 ) (va_cwS 1 hts gX3_giveBack_X3_isPerson rfl rfl rfl (by decide +kernel) ⟨Nat.le_of_ble_eq_true rfl, Nat.le_of_ble_eq_true rfl⟩) (bv_preS hz hP hK hE hS) rfl rfl hl.1 rfl (lv_room (Nat.le_of_ble_eq_true rfl)) dX3_giveBack_13 ⟨Nat.le_of_ble_eq_true rfl, Nat.le_of_ble_eq_true rfl⟩) hS (fun H locs hP hS => ?_)
    refine bv_ifneB (tgt := 25) hx hb dX3_giveBack_16 (by decide) (fun c_2 => ?_) (fun c_2 => ?_)
    · have r_2 := bv_rb_t c_2
      obtain ⟨q, hq, ej⟩ := bv_of16 c_2
      subst ej
      refine lv_aload_n hx hb dX3_giveBack_25 rfl (lv_at hl 0 rfl) ?_
      refine lv_iload_n hx hb dX3_giveBack_26 rfl (lv_at hl 1 rfl) ?_
      refine lv_iload_n hx hb dX3_giveBack_27 rfl (lv_at hl 2 rfl) ?_
      refine bv_ci (va_runV (As := [.int (nI j), .int (nI q)]) (rest := []) ⟨hx, hb, hml, hown, hts⟩ (c_X3_right l G S M (0, z.2) n j q (hn) (hI) (by omega) (by omega)) (cwV 2 hts gX3_giveBack_X3_right rfl rfl rfl (by decide +kernel) ⟨Nat.le_of_ble_eq_true rfl, Nat.le_of_ble_eq_true rfl⟩) (bv_preV hz hP hK hE hS (ci := 3) (bv_c43 G _ _ _) rfl rfl) rfl rfl hl.1 rfl (lv_room (Nat.le_of_ble_eq_true rfl)) dX3_giveBack_28 ⟨Nat.le_of_ble_eq_true rfl, Nat.le_of_ble_eq_true rfl⟩) hS (fun H locs hP hS => ?_)
      refine lv_if_eq (tgt := 40) hx hb dX3_giveBack_31 (by decide) (fun c_3 => ?_) (fun c_3 => ?_)
      · have c_3 : (bv_rt M j q) = 0 := c_3
        refine lv_aload_n hx hb dX3_giveBack_40 rfl (lv_at hl 0 rfl) ?_
        refine lv_iload_n hx hb dX3_giveBack_41 rfl (lv_at hl 1 rfl) ?_
        refine bv_cv (va_runV (As := [.int (nI j)]) (rest := []) ⟨hx, hb, hml, hown, hts⟩ (c_X3_frees l G S M (0, z.2) j cn (by omega) (hc) (ec) (fun i hi => bv_I_holds hI hi)) (cwV 1 hts gX3_giveBack_X3_frees rfl rfl rfl (by decide +kernel) ⟨Nat.le_of_ble_eq_true rfl, Nat.le_of_ble_eq_true rfl⟩) (bv_preV hz hP hK hE hS (ci := 3) (bv_c43 G _ _ _) rfl rfl) rfl rfl hl.1 rfl (lv_room (Nat.le_of_ble_eq_true rfl)) dX3_giveBack_42 ⟨Nat.le_of_ble_eq_true rfl, Nat.le_of_ble_eq_true rfl⟩) hS (fun H locs hP hS => ?_)
        refine lv_aload_n hx hb dX3_giveBack_45 rfl (lv_at hl 0 rfl) ?_
        refine bv_get_f (ci := 3) (C := RX3) (T := TX3) (N := 21) hx hb hts hin3 hown hK hP (bv_c43 G _ _ _) rfl 8 (by decide) wl1 rfl rfl dX3_giveBack_46 ?_
        refine lv_iload_n hx hb dX3_giveBack_49 rfl (lv_at hl 1 rfl) ?_
        refine bv_iald hx hb hK hP 50 (bv_c50 G _ _ _) j (rfl) (hj) (by decide) dX3_giveBack_50 ?_
        have hW : bv_H G S ((sp_giveBack M (nI j) (nI q)).2.2) ((sp_giveBack M (nI j) (nI q)).1, z.2) H := by
          rw [show (sp_giveBack M (nI j) (nI q)).2.2 = bv_fr (bv_up (bv_up M 9 j 0) 15 j 0) (nI j) cn from by simp [sp_giveBack, r_1, bv_cl hj (by decide : 8 < 2 ^ 31), r_2, bv_cl hq (by decide : 16 < 2 ^ 31), c_3, bv_nb, bv_up_at, bv_fr12, bv_fr13, bv_free, ecn]]
          rw [show (sp_giveBack M (nI j) (nI q)).1 = 0 from by simp [sp_giveBack, r_1, bv_cl hj (by decide : 8 < 2 ^ 31), r_2, bv_cl hq (by decide : 16 < 2 ^ 31), c_3, bv_nb, bv_up_at, bv_fr12, bv_fr13, bv_free, ecn]]
          exact hP
        exact bv_iret hx hb hr hlocks hS (Nat.le_of_ble_eq_true rfl) (Nat.le_of_ble_eq_true rfl) dX3_giveBack_51 (by simp [sp_giveBack, r_1, bv_cl hj (by decide : 8 < 2 ^ 31), r_2, bv_cl hq (by decide : 16 < 2 ^ 31), c_3, bv_nb, bv_up_at, bv_fr12, bv_fr13, bv_free, ecn]) hW
      · have c_3 : ¬ (bv_rt M j q) = 0 := c_3
        refine lv_aload_n hx hb dX3_giveBack_34 rfl (lv_at hl 0 rfl) ?_
        refine lv_iconst (v := 2) hx hb dX3_giveBack_35 (by decide) ?_
        refine bv_ci (va_runV (As := [.int 2]) (rest := []) ⟨hx, hb, hml, hown, hts⟩ (c_X3_fails l G S M (0, z.2) 2 ) (cwV 1 hts gX3_giveBack_X3_fails rfl rfl rfl (by decide +kernel) ⟨Nat.le_of_ble_eq_true rfl, Nat.le_of_ble_eq_true rfl⟩) (bv_preV hz hP hK hE hS (ci := 3) (bv_c43 G _ _ _) rfl rfl) rfl rfl hl.1 rfl (lv_room (Nat.le_of_ble_eq_true rfl)) dX3_giveBack_36 ⟨Nat.le_of_ble_eq_true rfl, Nat.le_of_ble_eq_true rfl⟩) hS (fun H locs hP hS => ?_)
        have hW : bv_H G S ((sp_giveBack M (nI j) (nI q)).2.2) ((sp_giveBack M (nI j) (nI q)).1, z.2) H := by
          rw [show (sp_giveBack M (nI j) (nI q)).2.2 = M from by simp [sp_giveBack, r_1, bv_cl hj (by decide : 8 < 2 ^ 31), r_2, bv_cl hq (by decide : 16 < 2 ^ 31), c_3, bv_nb, bv_up_at, bv_fr12, bv_fr13, bv_free, ecn]]
          rw [show (sp_giveBack M (nI j) (nI q)).1 = 2 from by simp [sp_giveBack, r_1, bv_cl hj (by decide : 8 < 2 ^ 31), r_2, bv_cl hq (by decide : 16 < 2 ^ 31), c_3, bv_nb, bv_up_at, bv_fr12, bv_fr13, bv_free, ecn]]
          exact hP
        exact bv_iret hx hb hr hlocks hS (Nat.le_of_ble_eq_true rfl) (Nat.le_of_ble_eq_true rfl) dX3_giveBack_39 (by simp [sp_giveBack, r_1, bv_cl hj (by decide : 8 < 2 ^ 31), r_2, bv_cl hq (by decide : 16 < 2 ^ 31), c_3, bv_nb, bv_up_at, bv_fr12, bv_fr13, bv_free, ecn]) hW
    · have r_2 := bv_rb_f c_2
      refine lv_aload_n hx hb dX3_giveBack_19 rfl (lv_at hl 0 rfl) ?_
      refine lv_iconst (v := 1) hx hb dX3_giveBack_20 (by decide) ?_
      refine bv_ci (va_runV (As := [.int 1]) (rest := []) ⟨hx, hb, hml, hown, hts⟩ (c_X3_fails l G S M (0, z.2) 1 ) (cwV 1 hts gX3_giveBack_X3_fails rfl rfl rfl (by decide +kernel) ⟨Nat.le_of_ble_eq_true rfl, Nat.le_of_ble_eq_true rfl⟩) (bv_preV hz hP hK hE hS (ci := 3) (bv_c43 G _ _ _) rfl rfl) rfl rfl hl.1 rfl (lv_room (Nat.le_of_ble_eq_true rfl)) dX3_giveBack_21 ⟨Nat.le_of_ble_eq_true rfl, Nat.le_of_ble_eq_true rfl⟩) hS (fun H locs hP hS => ?_)
      have hW : bv_H G S ((sp_giveBack M (nI j) p1).2.2) ((sp_giveBack M (nI j) p1).1, z.2) H := by
        rw [show (sp_giveBack M (nI j) p1).2.2 = M from by simp [sp_giveBack, r_1, bv_cl hj (by decide : 8 < 2 ^ 31), r_2, bv_nb, bv_up_at, bv_fr12, bv_fr13, bv_free, ecn]]
        rw [show (sp_giveBack M (nI j) p1).1 = 1 from by simp [sp_giveBack, r_1, bv_cl hj (by decide : 8 < 2 ^ 31), r_2, bv_nb, bv_up_at, bv_fr12, bv_fr13, bv_free, ecn]]
        exact hP
      exact bv_iret hx hb hr hlocks hS (Nat.le_of_ble_eq_true rfl) (Nat.le_of_ble_eq_true rfl) dX3_giveBack_24 (by simp [sp_giveBack, r_1, bv_cl hj (by decide : 8 < 2 ^ 31), r_2, bv_nb, bv_up_at, bv_fr12, bv_fr13, bv_free, ecn]) hW
