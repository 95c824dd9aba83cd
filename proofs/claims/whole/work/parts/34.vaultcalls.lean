set_option maxHeartbeats 4000000 in
set_option maxRecDepth 100000 in
theorem c_X2_pass (l : Launch) (hlt : l.stackTraces = false) (G : bv_G) (S M : bv_X) (z : bv_Z) (n : Nat) (p0 : Int32) (hn : n ≤ 1000) (hI : bv_I n S) : bv_Mx l yX2_pass wsX2_pass ({ frames := 7, cells := 2, slots := 12, locals := 104 }) [.ref (bv_a G 0), .int p0] G (bv_vw S) M z ((sp_pass S p0).1) "java/lang/IllegalArgumentException" ((sp_pass S p0).2.1) (bv_vw (sp_pass S p0).2.2) M z := by
  refine vx_ofW (cc := cX2_pass) (maxL := 2) (ret := (some .int)) (by decide) rfl ?_
  intro p e s m args below meth c s₁ B hml hh hv
  obtain ⟨rfl, hz, hP, hK, hE⟩ := hv
  have hx := B.exec
  have hb := B.bytes
  have hr := B.returns
  have hts := atoms_spec (ws := wsX2_pass) B.pre
  have hown : s.vm.findClass RX2 = some m.cls := findClass_of_methodNamed B.named
  have hlocks := B.notSynchronized
  have hS : va_S (bv_A G) s.heap s.heap [] := va_S.rf
  have wl0 := hts (.constant RX2 42 (99999)) (by decide +kernel)
  have wl1 := hts (.fieldLink RX2 33 "BoxVault" "today" "I") (by decide +kernel)
  have hin2 : ∀ w ∈ wsX20, w ∈ wsX2_pass := (fun w h => List.mem_cons_of_mem _ (List.mem_append_left _ (List.mem_append_left _ (List.mem_append_right _ h))))
  have hl := lv_entry ([.ref (bv_a G 0), .int p0]) (n := 2) (Nat.le_of_ble_eq_true rfl)
  rw [lg_entry_eq]
  generalize (lg_sl ([.ref (bv_a G 0), .int p0]) ++ List.replicate (2 - (lg_sl ([.ref (bv_a G 0), .int p0])).length) Slot.unset).toArray = ls at hl ⊢
  have hl : lv_has ls 2 [(0, .ref (bv_a G 0)), (1, .int p0)] := hl
  refine lv_iload_n hx hb dX2_pass_0 rfl (lv_at hl 1 rfl) ?_
  refine lv_iconst (v := 1) hx hb dX2_pass_1 (by decide) ?_
  refine lv_sipush (v := 1000) hx hb dX2_pass_2 (by decide) ?_
  refine bv_cxv (vx_runS (As := [.int p0, .int 1, .int 1000]) (rest := []) ⟨hx, hb, hml, hown, hts⟩ (c_X2_requireRange l hlt G (bv_vw S) M z p0 1 1000 ) (va_cwS 3 hts gX2_pass_X2_requireRange rfl rfl rfl (by decide +kernel) ⟨Nat.le_of_ble_eq_true rfl, Nat.le_of_ble_eq_true rfl⟩) (bv_preS hz hP hK hE hS) rfl rfl hl.1 rfl (lv_room (Nat.le_of_ble_eq_true rfl)) dX2_pass_5 ⟨Nat.le_of_ble_eq_true rfl, Nat.le_of_ble_eq_true rfl⟩) hS (bv_xout hh hlocks (Nat.le_of_ble_eq_true rfl) (Nat.le_of_ble_eq_true rfl) (fun k_1 => by have q9 := bv_rb_f (bI_1 k_1); rw [bI_t (bI_1 k_1)]; simp [sp_pass, q9, bv_nb, bv_up_at, bv_vw_10, bv_v0, bv_v1, bv_v2, bv_v3, bv_v9, bv_v11, bv_v12, bv_v13, bv_v14, bv_v15])) (fun H locs k_1 hP hS => ?_)
  have r_1 := bv_rb_t (Decidable.not_not.mp (bI_0 k_1))
  refine lv_iload_n hx hb dX2_pass_8 rfl (lv_at hl 1 rfl) ?_
  refine lv_ldc hx hb hown wl0 dX2_pass_9 ?_
  refine lv_aload_n hx hb dX2_pass_11 rfl (lv_at hl 0 rfl) ?_
  refine bv_get_f (ci := 2) (C := RX2) (T := TX2) (N := 6) hx hb hts hin2 hown hK hP (bv_c0 G _ _ _) rfl 5 (by decide) wl1 rfl rfl dX2_pass_12 ?_
  refine lv_isub hx hb dX2_pass_15 ?_
  refine lv_icmp_le (tgt := 29) hx hb dX2_pass_16 (by decide) (fun c_2 => ?_) (fun c_2 => ?_)
  · have c_2 : p0 ≤ (99999 - (S 0 0)) := c_2
    have c_f := (bv_late hI (Decidable.not_not.mp (bI_0 k_1))).mp c_2
    refine lv_aload_n hx hb dX2_pass_29 rfl (lv_at hl 0 rfl) ?_
    refine lv_dup hx hb dX2_pass_30 rfl ?_
    refine bv_get_f (ci := 2) (C := RX2) (T := TX2) (N := 6) hx hb hts hin2 hown hK hP (bv_c0 G _ _ _) rfl 5 (by decide) wl1 rfl rfl dX2_pass_31 ?_
    refine lv_iload_n hx hb dX2_pass_34 rfl (lv_at hl 1 rfl) ?_
    refine lv_iadd hx hb dX2_pass_35 ?_
    refine bv_put_f (ci := 2) (C := RX2) (T := TX2) (N := 6) (ty := .int) hx hb hts hin2 tyX2 tyX2_ok nmX2 hown hK hP hS (bv_c0 G _ _ _) rfl 5 (by decide) wl1 rfl rfl rfl rfl rfl (Nat.le_of_ble_eq_true rfl) rfl (bv_s0 G _ _ _ _) dX2_pass_36 (fun H locs hP hS => ?_)
    refine lv_aload_n hx hb dX2_pass_39 rfl (lv_at hl 0 rfl) ?_
    refine bv_get_f (ci := 2) (C := RX2) (T := TX2) (N := 6) hx hb hts hin2 hown hK hP (bv_c0 G _ _ _) rfl 5 (by decide) wl1 rfl rfl dX2_pass_40 ?_
    have hW : bv_H G (bv_vw (sp_pass S p0).2.2) M z H := by
      rw [show (sp_pass S p0).2.2 = bv_up S 0 0 (S 0 0 + p0) from by simp [sp_pass, r_1, c_f, bv_nb, bv_up_at, bv_vw_10, bv_v0, bv_v1, bv_v2, bv_v3, bv_v9, bv_v11, bv_v12, bv_v13, bv_v14, bv_v15]]
      rw [← bv_vw_up _ (by decide) (by decide) (by decide)]
      exact hP
    exact bv_xiret hx hb hr hlocks hS (Nat.le_of_ble_eq_true rfl) (Nat.le_of_ble_eq_true rfl) dX2_pass_43 (by simp [sp_pass, r_1, c_f, bv_nb, bv_up_at, bv_vw_10, bv_v0, bv_v1, bv_v2, bv_v3, bv_v9, bv_v11, bv_v12, bv_v13, bv_v14, bv_v15]) (by simp [sp_pass, r_1, c_f, bv_nb, bv_up_at, bv_vw_10, bv_v0, bv_v1, bv_v2, bv_v3, bv_v9, bv_v11, bv_v12, bv_v13, bv_v14, bv_v15]) hW
  · have c_2 : ¬ p0 ≤ (99999 - (S 0 0)) := c_2
    have c_f : 99999 < S 0 0 + p0 := Decidable.not_not.mp (fun h => c_2 ((bv_late hI (Decidable.not_not.mp (bI_0 k_1))).mpr h))
    exact bv_throw (cls := "java/lang/IllegalStateException") (text := "it would be later than the last day") (ik := 43) (is := 45) (ic := 47) hx hb hlt hts hown (by decide) (by decide +kernel) (by decide +kernel) (by decide) (fun w h => List.mem_cons_of_mem _ (List.mem_append_left _ (List.mem_append_right _ h))) bv_at47_2 bv_at47_g hE hS (by rw [hml]; exact hl.1) dX2_pass_19 dX2_pass_22 dX2_pass_23 dX2_pass_25 dX2_pass_28 hh (Nat.le_of_ble_eq_true rfl) (Nat.le_of_ble_eq_true rfl) (Nat.le_of_ble_eq_true rfl) (Nat.le_of_ble_eq_true rfl) hlocks (Nat.le_of_ble_eq_true rfl) (Nat.le_of_ble_eq_true rfl) hP (Or.inr ⟨rfl, (by simp [sp_pass, r_1, c_f, bv_nb, bv_up_at, bv_vw_10, bv_v0, bv_v1, bv_v2, bv_v3, bv_v9, bv_v11, bv_v12, bv_v13, bv_v14, bv_v15])⟩)
set_option maxHeartbeats 4000000 in
set_option maxRecDepth 100000 in
theorem c_X2_rent (l : Launch) (hlt : l.stackTraces = false) (G : bv_G) (S M : bv_X) (z : bv_Z) (n : Nat) (p0 : Int32) (p1 : Int32) (p2 : Int32) (hn : n ≤ 1000) (hI : bv_I n S) : bv_Mx l yX2_rent wsX2_rent ({ frames := 8, cells := 4, slots := 24, locals := 125 }) [.ref (bv_a G 0), .int p0, .int p1, .int p2] G (bv_vw S) M z ((sp_rent S p0 p1 p2).1) "java/lang/IllegalArgumentException" ((sp_rent S p0 p1 p2).2.1) (bv_vw (sp_rent S p0 p1 p2).2.2) M z := by
  refine vx_ofW (cc := cX2_rent) (maxL := 5) (ret := (some .int)) (by decide) rfl ?_
  intro p e s m args below meth c s₁ B hml hh hv
  obtain ⟨rfl, hz, hP, hK, hE⟩ := hv
  have hx := B.exec
  have hb := B.bytes
  have hr := B.returns
  have hts := atoms_spec (ws := wsX2_rent) B.pre
  have hown : s.vm.findClass RX2 = some m.cls := findClass_of_methodNamed B.named
  have hlocks := B.notSynchronized
  have hS : va_S (bv_A G) s.heap s.heap [] := va_S.rf
  have wl0 := hts (.initialized RX0) (by decide +kernel)
  have wl1 := hts (.instanceMethod yX0_isFree) (by decide +kernel)
  have wl2 := hts (.selects RX0 yX0_isFree yX0_isFree) (by decide +kernel)
  have wl3 := hts (.fieldLink RX2 33 "BoxVault" "today" "I") (by decide +kernel)
  have wl4 := hts (.instanceMethod yX0_startRent) (by decide +kernel)
  have wl5 := hts (.selects RX0 yX0_startRent yX0_startRent) (by decide +kernel)
  have hin0 : ∀ w ∈ wsX00, w ∈ wsX2_rent := (fun w h => List.mem_cons_of_mem _ (List.mem_append_left _ (List.mem_append_left _ (List.mem_append_right _ h))))
  have hin2 : ∀ w ∈ wsX20, w ∈ wsX2_rent := (fun w h => List.mem_cons_of_mem _ (List.mem_append_left _ (List.mem_append_left _ (List.mem_append_left _ (List.mem_append_right _ h)))))
  have hl := lv_entry ([.ref (bv_a G 0), .int p0, .int p1, .int p2]) (n := 5) (Nat.le_of_ble_eq_true rfl)
  rw [lg_entry_eq]
  generalize (lg_sl ([.ref (bv_a G 0), .int p0, .int p1, .int p2]) ++ List.replicate (5 - (lg_sl ([.ref (bv_a G 0), .int p0, .int p1, .int p2])).length) Slot.unset).toArray = ls at hl ⊢
  have hl : lv_has ls 5 [(0, .ref (bv_a G 0)), (1, .int p0), (2, .int p1), (3, .int p2)] := hl
  refine lv_aload_n hx hb dX2_rent_0 rfl (lv_at hl 0 rfl) ?_
  refine lv_iload_n hx hb dX2_rent_1 rfl (lv_at hl 1 rfl) ?_
  refine bv_cxr (vx_runV (As := [.int p0]) (rest := []) ⟨hx, hb, hml, hown, hts⟩ (c_X2_boxAt l hlt G (bv_vw S) M z p0 ) (cwV 1 hts gX2_rent_X2_boxAt rfl rfl rfl (by decide +kernel) ⟨Nat.le_of_ble_eq_true rfl, Nat.le_of_ble_eq_true rfl⟩) (bv_preV hz hP hK hE hS (ci := 2) (bv_c0 G _ _ _) rfl rfl) rfl rfl hl.1 rfl (lv_room (Nat.le_of_ble_eq_true rfl)) dX2_rent_2 ⟨Nat.le_of_ble_eq_true rfl, Nat.le_of_ble_eq_true rfl⟩) hS (bv_xout hh hlocks (Nat.le_of_ble_eq_true rfl) (Nat.le_of_ble_eq_true rfl) (fun k_1 => by have q9 := bv_rb_f (bI_1 k_1); rw [bI_t (bI_1 k_1)]; simp [sp_rent, q9, bv_nb, bv_up_at, bv_vw_10, bv_v0, bv_v1, bv_v2, bv_v3, bv_v9, bv_v11, bv_v12, bv_v13, bv_v14, bv_v15])) (fun H locs k_1 hP hS => ?_)
  have r_1 := bv_rb_t (Decidable.not_not.mp (bI_0 k_1))
  obtain ⟨j, hj, ej⟩ := bv_of8 (Decidable.not_not.mp (bI_0 k_1))
  subst ej
  rw [bv_cl hj (by decide)]
  refine lv_astore (lv' := [(4, .ref (bv_a G (11 + j))), (0, .ref (bv_a G 0)), (1, .int (nI j)), (2, .int p1), (3, .int p2)]) hx hb dX2_rent_5 hl (by decide) rfl (fun ls hl => ?_)
  refine lv_iload_n hx hb dX2_rent_7 rfl (lv_at hl 3 rfl) ?_
  refine bv_cxv (vx_runS (As := [.int p1]) (rest := []) ⟨hx, hb, hml, hown, hts⟩ (c_X2_requirePerson l hlt G (bv_vw S) M z p1 ) (va_cwS 1 hts gX2_rent_X2_requirePerson rfl rfl rfl (by decide +kernel) ⟨Nat.le_of_ble_eq_true rfl, Nat.le_of_ble_eq_true rfl⟩) (bv_preS hz hP hK hE hS) rfl rfl hl.1 rfl (lv_room (Nat.le_of_ble_eq_true rfl)) dX2_rent_8 ⟨Nat.le_of_ble_eq_true rfl, Nat.le_of_ble_eq_true rfl⟩) hS (bv_xout hh hlocks (Nat.le_of_ble_eq_true rfl) (Nat.le_of_ble_eq_true rfl) (fun k_2 => by have q9 := bv_rb_f (bI_1 k_2); rw [bI_t (bI_1 k_2)]; simp [sp_rent, q9, r_1, bv_cl hj (by decide : 8 < 2 ^ 31), bv_nb, bv_up_at, bv_vw_10, bv_v0, bv_v1, bv_v2, bv_v3, bv_v9, bv_v11, bv_v12, bv_v13, bv_v14, bv_v15])) (fun H locs k_2 hP hS => ?_)
  have r_2 := bv_rb_t (Decidable.not_not.mp (bI_0 k_2))
  obtain ⟨q, hq, ej⟩ := bv_of16 (Decidable.not_not.mp (bI_0 k_2))
  subst ej
  refine lv_iload_n hx hb dX2_rent_11 rfl (lv_at hl 4 rfl) ?_
  refine lv_iconst (v := 1) hx hb dX2_rent_12 (by decide) ?_
  refine lv_sipush (v := 1000) hx hb dX2_rent_13 (by decide) ?_
  refine bv_cxv (vx_runS (As := [.int p2, .int 1, .int 1000]) (rest := []) ⟨hx, hb, hml, hown, hts⟩ (c_X2_requireRange l hlt G (bv_vw S) M z p2 1 1000 ) (va_cwS 3 hts gX2_rent_X2_requireRange rfl rfl rfl (by decide +kernel) ⟨Nat.le_of_ble_eq_true rfl, Nat.le_of_ble_eq_true rfl⟩) (bv_preS hz hP hK hE hS) rfl rfl hl.1 rfl (lv_room (Nat.le_of_ble_eq_true rfl)) dX2_rent_16 ⟨Nat.le_of_ble_eq_true rfl, Nat.le_of_ble_eq_true rfl⟩) hS (bv_xout hh hlocks (Nat.le_of_ble_eq_true rfl) (Nat.le_of_ble_eq_true rfl) (fun k_3 => by have q9 := bv_rb_f (bI_1 k_3); rw [bI_t (bI_1 k_3)]; simp [sp_rent, q9, r_1, bv_cl hj (by decide : 8 < 2 ^ 31), r_2, bv_cl hq (by decide : 16 < 2 ^ 31), bv_nb, bv_up_at, bv_vw_10, bv_v0, bv_v1, bv_v2, bv_v3, bv_v9, bv_v11, bv_v12, bv_v13, bv_v14, bv_v15])) (fun H locs k_3 hP hS => ?_)
  have r_3 := bv_rb_t (Decidable.not_not.mp (bI_0 k_3))
  refine lv_aload hx hb dX2_rent_19 (lv_at hl 0 rfl) ?_
  refine bv_ci (va_runVN (As := []) (rest := []) ⟨hx, hb, hml, hown, hts⟩ (c_X0_isFree l G (bv_vw S) M z j (by omega)) ⟨va_cnB (host := "BoxVault") 0 hts gX2_rent_X0_isFree_n58 rfl rfl rfl (hE.1 _ (by decide +kernel)) wl0 (by decide +kernel) ⟨Nat.le_of_ble_eq_true rfl, Nat.le_of_ble_eq_true rfl⟩, wl1, wl2⟩ (bv_preV hz hP hK hE hS (ci := 0) (bv_cB G _ _ _ (hj)) rfl rfl) rfl rfl hl.1 rfl (lv_room (Nat.le_of_ble_eq_true rfl)) dX2_rent_21 ⟨Nat.le_of_ble_eq_true rfl, Nat.le_of_ble_eq_true rfl⟩) hS (fun H locs hP hS => ?_)
  refine bv_ifneB (tgt := 37) hx hb dX2_rent_24 (by decide) (fun c_4 => ?_) (fun c_4 => ?_)
  · have c_4 : (S 9 j = 0) := c_4
    refine lv_aload_n hx hb dX2_rent_37 rfl (lv_at hl 1 rfl) ?_
    refine lv_iload_n hx hb dX2_rent_38 rfl (lv_at hl 3 rfl) ?_
    refine bv_ci (va_runV (As := [.int (nI q)]) (rest := []) ⟨hx, hb, hml, hown, hts⟩ (c_X2_isAlive l G (bv_vw S) M z q (by omega)) (cwV 1 hts gX2_rent_X2_isAlive rfl rfl rfl (by decide +kernel) ⟨Nat.le_of_ble_eq_true rfl, Nat.le_of_ble_eq_true rfl⟩) (bv_preV hz hP hK hE hS (ci := 2) (bv_c0 G _ _ _) rfl rfl) rfl rfl hl.1 rfl (lv_room (Nat.le_of_ble_eq_true rfl)) dX2_rent_39 ⟨Nat.le_of_ble_eq_true rfl, Nat.le_of_ble_eq_true rfl⟩) hS (fun H locs hP hS => ?_)
    refine bv_ifneB (tgt := 55) hx hb dX2_rent_42 (by decide) (fun c_5 => ?_) (fun c_5 => ?_)
    · have c_5 : (S 1 q = 0) := c_5
      refine lv_aload hx hb dX2_rent_55 (lv_at hl 0 rfl) ?_
      refine lv_iload_n hx hb dX2_rent_57 rfl (lv_at hl 3 rfl) ?_
      refine lv_aload_n hx hb dX2_rent_58 rfl (lv_at hl 1 rfl) ?_
      refine bv_get_f (ci := 2) (C := RX2) (T := TX2) (N := 6) hx hb hts hin2 hown hK hP (bv_c0 G _ _ _) rfl 5 (by decide) wl3 rfl rfl dX2_rent_59 ?_
      refine lv_iload_n hx hb dX2_rent_62 rfl (lv_at hl 4 rfl) ?_
      refine lv_iadd hx hb dX2_rent_63 ?_
      refine bv_cv (va_runVN (As := [.int (nI q), .int ((S 0 0) + p2)]) (rest := []) ⟨hx, hb, hml, hown, hts⟩ (c_X0_startRent l G (bv_vw S) M z j (nI q) ((S 0 0) + p2) (by omega)) ⟨va_cnB (host := "BoxVault") 2 hts gX2_rent_X0_startRent_n70 rfl rfl rfl (hE.1 _ (by decide +kernel)) wl0 (by decide +kernel) ⟨Nat.le_of_ble_eq_true rfl, Nat.le_of_ble_eq_true rfl⟩, wl4, wl5⟩ (bv_preV hz hP hK hE hS (ci := 0) (bv_cB G _ _ _ (hj)) rfl rfl) rfl rfl hl.1 rfl (lv_room (Nat.le_of_ble_eq_true rfl)) dX2_rent_64 ⟨Nat.le_of_ble_eq_true rfl, Nat.le_of_ble_eq_true rfl⟩) hS (fun H locs hP hS => ?_)
      refine lv_aload hx hb dX2_rent_67 (lv_at hl 0 rfl) ?_
      refine bv_get_n (ref := "BoxVault$Box") (host := "BoxVault") (ci := 0) (C := RX0) (T := TX0) (N := 10) hx hb hts hin0 hown hK hP (bv_cB G _ _ _ (hj)) rfl 2 (by decide) hE (by decide +kernel) rfl rfl dX2_rent_69 ?_
      have hW : bv_H G (bv_vw (sp_rent S (nI j) (nI q) p2).2.2) M z H := by
        rw [show (sp_rent S (nI j) (nI q) p2).2.2 = bv_up (bv_up (bv_up (bv_up (bv_up S 9 j 1) 10 j (nI q)) 11 j (S 0 0 + p2)) 13 j 0) 14 j 0 from by simp [sp_rent, r_1, bv_cl hj (by decide : 8 < 2 ^ 31), r_2, bv_cl hq (by decide : 16 < 2 ^ 31), r_3, c_4, c_5, bv_nb, bv_up_at, bv_vw_10, bv_v0, bv_v1, bv_v2, bv_v3, bv_v9, bv_v11, bv_v12, bv_v13, bv_v14, bv_v15]]
        rw [← bv_vw_up _ (by decide) (by decide) (by decide), ← bv_vw_up _ (by decide) (by decide) (by decide), ← bv_vw_up _ (by decide) (by decide) (by decide), ← bv_vw_rent _ (by decide)]
        exact hP
      exact bv_xiret hx hb hr hlocks hS (Nat.le_of_ble_eq_true rfl) (Nat.le_of_ble_eq_true rfl) dX2_rent_72 (by simp [sp_rent, r_1, bv_cl hj (by decide : 8 < 2 ^ 31), r_2, bv_cl hq (by decide : 16 < 2 ^ 31), r_3, c_4, c_5, bv_nb, bv_up_at, bv_vw_10, bv_v0, bv_v1, bv_v2, bv_v3, bv_v9, bv_v11, bv_v12, bv_v13, bv_v14, bv_v15]) (by simp [sp_rent, r_1, bv_cl hj (by decide : 8 < 2 ^ 31), r_2, bv_cl hq (by decide : 16 < 2 ^ 31), r_3, c_4, c_5, bv_nb, bv_up_at, bv_vw_10, bv_v0, bv_v1, bv_v2, bv_v3, bv_v9, bv_v11, bv_v12, bv_v13, bv_v14, bv_v15]) hW
    · have c_5 : ¬ (S 1 q = 0) := c_5
      exact bv_throw (cls := "java/lang/IllegalStateException") (text := "the person is dead") (ik := 43) (is := 68) (ic := 47) hx hb hlt hts hown (by decide) (by decide +kernel) (by decide +kernel) (by decide) (fun w h => List.mem_cons_of_mem _ (List.mem_append_left _ (List.mem_append_right _ h))) bv_at47_2 bv_at47_g hE hS (by rw [hml]; exact hl.1) dX2_rent_45 dX2_rent_48 dX2_rent_49 dX2_rent_51 dX2_rent_54 hh (Nat.le_of_ble_eq_true rfl) (Nat.le_of_ble_eq_true rfl) (Nat.le_of_ble_eq_true rfl) (Nat.le_of_ble_eq_true rfl) hlocks (Nat.le_of_ble_eq_true rfl) (Nat.le_of_ble_eq_true rfl) hP (Or.inr ⟨rfl, (by simp [sp_rent, r_1, bv_cl hj (by decide : 8 < 2 ^ 31), r_2, bv_cl hq (by decide : 16 < 2 ^ 31), r_3, c_4, c_5, bv_nb, bv_up_at, bv_vw_10, bv_v0, bv_v1, bv_v2, bv_v3, bv_v9, bv_v11, bv_v12, bv_v13, bv_v14, bv_v15])⟩)
  · have c_4 : ¬ (S 9 j = 0) := c_4
    exact bv_throw (cls := "java/lang/IllegalStateException") (text := "the box is not free") (ik := 43) (is := 62) (ic := 47) hx hb hlt hts hown (by decide) (by decide +kernel) (by decide +kernel) (by decide) (fun w h => List.mem_cons_of_mem _ (List.mem_append_left _ (List.mem_append_right _ h))) bv_at47_2 bv_at47_g hE hS (by rw [hml]; exact hl.1) dX2_rent_27 dX2_rent_30 dX2_rent_31 dX2_rent_33 dX2_rent_36 hh (Nat.le_of_ble_eq_true rfl) (Nat.le_of_ble_eq_true rfl) (Nat.le_of_ble_eq_true rfl) (Nat.le_of_ble_eq_true rfl) hlocks (Nat.le_of_ble_eq_true rfl) (Nat.le_of_ble_eq_true rfl) hP (Or.inr ⟨rfl, (by simp [sp_rent, r_1, bv_cl hj (by decide : 8 < 2 ^ 31), r_2, bv_cl hq (by decide : 16 < 2 ^ 31), r_3, c_4, bv_nb, bv_up_at, bv_vw_10, bv_v0, bv_v1, bv_v2, bv_v3, bv_v9, bv_v11, bv_v12, bv_v13, bv_v14, bv_v15])⟩)
set_option maxHeartbeats 4000000 in
set_option maxRecDepth 100000 in
theorem c_X2_extend (l : Launch) (hlt : l.stackTraces = false) (G : bv_G) (S M : bv_X) (z : bv_Z) (n : Nat) (p0 : Int32) (p1 : Int32) (hn : n ≤ 1000) (hI : bv_I n S) : bv_Mx l yX2_extend wsX2_extend ({ frames := 8, cells := 3, slots := 18, locals := 125 }) [.ref (bv_a G 0), .int p0, .int p1] G (bv_vw S) M z ((sp_extend S p0 p1).1) "java/lang/IllegalArgumentException" ((sp_extend S p0 p1).2.1) (bv_vw (sp_extend S p0 p1).2.2) M z := by
  refine vx_ofW (cc := cX2_extend) (maxL := 4) (ret := (some .int)) (by decide) rfl ?_
  intro p e s m args below meth c s₁ B hml hh hv
  obtain ⟨rfl, hz, hP, hK, hE⟩ := hv
  have hx := B.exec
  have hb := B.bytes
  have hr := B.returns
  have hts := atoms_spec (ws := wsX2_extend) B.pre
  have hown : s.vm.findClass RX2 = some m.cls := findClass_of_methodNamed B.named
  have hlocks := B.notSynchronized
  have hS : va_S (bv_A G) s.heap s.heap [] := va_S.rf
  have hin0 : ∀ w ∈ wsX00, w ∈ wsX2_extend := (fun w h => List.mem_cons_of_mem _ (List.mem_append_left _ (List.mem_append_left _ (List.mem_append_left _ (List.mem_append_right _ h)))))
  have hl := lv_entry ([.ref (bv_a G 0), .int p0, .int p1]) (n := 4) (Nat.le_of_ble_eq_true rfl)
  rw [lg_entry_eq]
  generalize (lg_sl ([.ref (bv_a G 0), .int p0, .int p1]) ++ List.replicate (4 - (lg_sl ([.ref (bv_a G 0), .int p0, .int p1])).length) Slot.unset).toArray = ls at hl ⊢
  have hl : lv_has ls 4 [(0, .ref (bv_a G 0)), (1, .int p0), (2, .int p1)] := hl
  refine lv_aload_n hx hb dX2_extend_0 rfl (lv_at hl 0 rfl) ?_
  refine lv_iload_n hx hb dX2_extend_1 rfl (lv_at hl 1 rfl) ?_
  refine bv_cxr (vx_runV (As := [.int p0]) (rest := []) ⟨hx, hb, hml, hown, hts⟩ (c_X2_boxAt l hlt G (bv_vw S) M z p0 ) (cwV 1 hts gX2_extend_X2_boxAt rfl rfl rfl (by decide +kernel) ⟨Nat.le_of_ble_eq_true rfl, Nat.le_of_ble_eq_true rfl⟩) (bv_preV hz hP hK hE hS (ci := 2) (bv_c0 G _ _ _) rfl rfl) rfl rfl hl.1 rfl (lv_room (Nat.le_of_ble_eq_true rfl)) dX2_extend_2 ⟨Nat.le_of_ble_eq_true rfl, Nat.le_of_ble_eq_true rfl⟩) hS (bv_xout hh hlocks (Nat.le_of_ble_eq_true rfl) (Nat.le_of_ble_eq_true rfl) (fun k_1 => by have q9 := bv_rb_f (bI_1 k_1); rw [bI_t (bI_1 k_1)]; simp [sp_extend, q9, bv_nb, bv_up_at, bv_vw_10, bv_v0, bv_v1, bv_v2, bv_v3, bv_v9, bv_v11, bv_v12, bv_v13, bv_v14, bv_v15])) (fun H locs k_1 hP hS => ?_)
  have r_1 := bv_rb_t (Decidable.not_not.mp (bI_0 k_1))
  obtain ⟨j, hj, ej⟩ := bv_of8 (Decidable.not_not.mp (bI_0 k_1))
  subst ej
  rw [bv_cl hj (by decide)]
  refine lv_astore_n (lv' := [(3, .ref (bv_a G (11 + j))), (0, .ref (bv_a G 0)), (1, .int (nI j)), (2, .int p1)]) hx hb dX2_extend_5 rfl hl (by decide) rfl (fun ls hl => ?_)
  refine lv_iload_n hx hb dX2_extend_6 rfl (lv_at hl 3 rfl) ?_
  refine lv_iconst (v := 1) hx hb dX2_extend_7 (by decide) ?_
  refine lv_sipush (v := 1000) hx hb dX2_extend_8 (by decide) ?_
  refine bv_cxv (vx_runS (As := [.int p1, .int 1, .int 1000]) (rest := []) ⟨hx, hb, hml, hown, hts⟩ (c_X2_requireRange l hlt G (bv_vw S) M z p1 1 1000 ) (va_cwS 3 hts gX2_extend_X2_requireRange rfl rfl rfl (by decide +kernel) ⟨Nat.le_of_ble_eq_true rfl, Nat.le_of_ble_eq_true rfl⟩) (bv_preS hz hP hK hE hS) rfl rfl hl.1 rfl (lv_room (Nat.le_of_ble_eq_true rfl)) dX2_extend_11 ⟨Nat.le_of_ble_eq_true rfl, Nat.le_of_ble_eq_true rfl⟩) hS (bv_xout hh hlocks (Nat.le_of_ble_eq_true rfl) (Nat.le_of_ble_eq_true rfl) (fun k_2 => by have q9 := bv_rb_f (bI_1 k_2); rw [bI_t (bI_1 k_2)]; simp [sp_extend, q9, r_1, bv_cl hj (by decide : 8 < 2 ^ 31), bv_nb, bv_up_at, bv_vw_10, bv_v0, bv_v1, bv_v2, bv_v3, bv_v9, bv_v11, bv_v12, bv_v13, bv_v14, bv_v15])) (fun H locs k_2 hP hS => ?_)
  have r_2 := bv_rb_t (Decidable.not_not.mp (bI_0 k_2))
  refine lv_aload_n hx hb dX2_extend_14 rfl (lv_at hl 0 rfl) ?_
  refine bv_cxv (vx_runS (As := [.ref (bv_a G (11 + j))]) (rest := []) ⟨hx, hb, hml, hown, hts⟩ (c_X2_requireRented l hlt G (bv_vw S) M z j (by omega)) (va_cwS 1 hts gX2_extend_X2_requireRented rfl rfl rfl (by decide +kernel) ⟨Nat.le_of_ble_eq_true rfl, Nat.le_of_ble_eq_true rfl⟩) (bv_preS hz hP hK hE hS) rfl rfl hl.1 rfl (lv_room (Nat.le_of_ble_eq_true rfl)) dX2_extend_15 ⟨Nat.le_of_ble_eq_true rfl, Nat.le_of_ble_eq_true rfl⟩) hS (bv_xout hh hlocks (Nat.le_of_ble_eq_true rfl) (Nat.le_of_ble_eq_true rfl) (fun k_3 => by have q9 : ¬ (S 9 j = 1) := bJ_1 k_3; rw [bJ_t (bJ_1 k_3)]; simp [sp_extend, q9, r_1, bv_cl hj (by decide : 8 < 2 ^ 31), r_2, bv_nb, bv_up_at, bv_vw_10, bv_v0, bv_v1, bv_v2, bv_v3, bv_v9, bv_v11, bv_v12, bv_v13, bv_v14, bv_v15])) (fun H locs k_3 hP hS => ?_)
  have r_3 : S 9 j = 1 := Decidable.not_not.mp (bJ_0 k_3)
  refine lv_aload_n hx hb dX2_extend_18 rfl (lv_at hl 0 rfl) ?_
  refine lv_dup hx hb dX2_extend_19 rfl ?_
  refine bv_get_n (ref := "BoxVault$Box") (host := "BoxVault") (ci := 0) (C := RX0) (T := TX0) (N := 10) hx hb hts hin0 hown hK hP (bv_cB G _ _ _ (hj)) rfl 2 (by decide) hE (by decide +kernel) rfl rfl dX2_extend_20 ?_
  refine lv_iload_n hx hb dX2_extend_23 rfl (lv_at hl 3 rfl) ?_
  refine lv_iadd hx hb dX2_extend_24 ?_
  refine bv_put_n (ref := "BoxVault$Box") (host := "BoxVault") (ci := 0) (C := RX0) (T := TX0) (N := 10) (ty := .int) hx hb hts hin0 tyX0 tyX0_ok nmX0 hown hK hP hS (bv_cB G _ _ _ (hj)) rfl 2 (by decide) hE (by decide +kernel) rfl rfl rfl rfl rfl (Nat.le_of_ble_eq_true rfl) rfl (bv_sB11 G _ _ _ (hj) _) dX2_extend_25 (fun H locs hP hS => ?_)
  refine lv_aload_n hx hb dX2_extend_28 rfl (lv_at hl 0 rfl) ?_
  refine bv_get_n (ref := "BoxVault$Box") (host := "BoxVault") (ci := 0) (C := RX0) (T := TX0) (N := 10) hx hb hts hin0 hown hK hP (bv_cB G _ _ _ (hj)) rfl 2 (by decide) hE (by decide +kernel) rfl rfl dX2_extend_29 ?_
  have hW : bv_H G (bv_vw (sp_extend S (nI j) p1).2.2) M z H := by
    rw [show (sp_extend S (nI j) p1).2.2 = bv_up S 11 j (S 11 j + p1) from by simp [sp_extend, r_1, bv_cl hj (by decide : 8 < 2 ^ 31), r_2, r_3, bv_nb, bv_up_at, bv_vw_10, bv_v0, bv_v1, bv_v2, bv_v3, bv_v9, bv_v11, bv_v12, bv_v13, bv_v14, bv_v15]]
    rw [← bv_vw_up _ (by decide) (by decide) (by decide)]
    exact hP
  exact bv_xiret hx hb hr hlocks hS (Nat.le_of_ble_eq_true rfl) (Nat.le_of_ble_eq_true rfl) dX2_extend_32 (by simp [sp_extend, r_1, bv_cl hj (by decide : 8 < 2 ^ 31), r_2, r_3, bv_nb, bv_up_at, bv_vw_10, bv_v0, bv_v1, bv_v2, bv_v3, bv_v9, bv_v11, bv_v12, bv_v13, bv_v14, bv_v15]) (by simp [sp_extend, r_1, bv_cl hj (by decide : 8 < 2 ^ 31), r_2, r_3, bv_nb, bv_up_at, bv_vw_10, bv_v0, bv_v1, bv_v2, bv_v3, bv_v9, bv_v11, bv_v12, bv_v13, bv_v14, bv_v15]) hW
set_option maxHeartbeats 4000000 in
set_option maxRecDepth 100000 in
theorem c_X2_may (l : Launch) (hlt : l.stackTraces = false) (G : bv_G) (S M : bv_X) (z : bv_Z) (n : Nat) (p0 : Int32) (p1 : Int32) (hn : n ≤ 1000) (hI : bv_I n S) : bv_Mx l yX2_may wsX2_may ({ frames := 8, cells := 2, slots := 12, locals := 125 }) [.ref (bv_a G 0), .int p0, .int p1] G (bv_vw S) M z ((sp_may S p0 p1).1) "java/lang/IllegalArgumentException" ((sp_may S p0 p1).2.1) (bv_vw (sp_may S p0 p1).2.2) M z := by
  refine vx_ofW (cc := cX2_may) (maxL := 4) (ret := (some .int)) (by decide) rfl ?_
  intro p e s m args below meth c s₁ B hml hh hv
  obtain ⟨rfl, hz, hP, hK, hE⟩ := hv
  have hx := B.exec
  have hb := B.bytes
  have hr := B.returns
  have hts := atoms_spec (ws := wsX2_may) B.pre
  have hown : s.vm.findClass RX2 = some m.cls := findClass_of_methodNamed B.named
  have hlocks := B.notSynchronized
  have hS : va_S (bv_A G) s.heap s.heap [] := va_S.rf
  have hl := lv_entry ([.ref (bv_a G 0), .int p0, .int p1]) (n := 4) (Nat.le_of_ble_eq_true rfl)
  rw [lg_entry_eq]
  generalize (lg_sl ([.ref (bv_a G 0), .int p0, .int p1]) ++ List.replicate (4 - (lg_sl ([.ref (bv_a G 0), .int p0, .int p1])).length) Slot.unset).toArray = ls at hl ⊢
  have hl : lv_has ls 4 [(0, .ref (bv_a G 0)), (1, .int p0), (2, .int p1)] := hl
  refine lv_aload_n hx hb dX2_may_0 rfl (lv_at hl 0 rfl) ?_
  refine lv_iload_n hx hb dX2_may_1 rfl (lv_at hl 1 rfl) ?_
  refine bv_cxr (vx_runV (As := [.int p0]) (rest := []) ⟨hx, hb, hml, hown, hts⟩ (c_X2_boxAt l hlt G (bv_vw S) M z p0 ) (cwV 1 hts gX2_may_X2_boxAt rfl rfl rfl (by decide +kernel) ⟨Nat.le_of_ble_eq_true rfl, Nat.le_of_ble_eq_true rfl⟩) (bv_preV hz hP hK hE hS (ci := 2) (bv_c0 G _ _ _) rfl rfl) rfl rfl hl.1 rfl (lv_room (Nat.le_of_ble_eq_true rfl)) dX2_may_2 ⟨Nat.le_of_ble_eq_true rfl, Nat.le_of_ble_eq_true rfl⟩) hS (bv_xout hh hlocks (Nat.le_of_ble_eq_true rfl) (Nat.le_of_ble_eq_true rfl) (fun k_1 => by have q9 := bv_rb_f (bI_1 k_1); rw [bI_t (bI_1 k_1)]; simp [sp_may, q9, bv_nb, bv_up_at, bv_vw_10, bv_v0, bv_v1, bv_v2, bv_v3, bv_v9, bv_v11, bv_v12, bv_v13, bv_v14, bv_v15])) (fun H locs k_1 hP hS => ?_)
  have r_1 := bv_rb_t (Decidable.not_not.mp (bI_0 k_1))
  obtain ⟨j, hj, ej⟩ := bv_of8 (Decidable.not_not.mp (bI_0 k_1))
  subst ej
  rw [bv_cl hj (by decide)]
  refine lv_astore_n (lv' := [(3, .ref (bv_a G (11 + j))), (0, .ref (bv_a G 0)), (1, .int (nI j)), (2, .int p1)]) hx hb dX2_may_5 rfl hl (by decide) rfl (fun ls hl => ?_)
  refine lv_iload_n hx hb dX2_may_6 rfl (lv_at hl 3 rfl) ?_
  refine bv_cxv (vx_runS (As := [.int p1]) (rest := []) ⟨hx, hb, hml, hown, hts⟩ (c_X2_requirePerson l hlt G (bv_vw S) M z p1 ) (va_cwS 1 hts gX2_may_X2_requirePerson rfl rfl rfl (by decide +kernel) ⟨Nat.le_of_ble_eq_true rfl, Nat.le_of_ble_eq_true rfl⟩) (bv_preS hz hP hK hE hS) rfl rfl hl.1 rfl (lv_room (Nat.le_of_ble_eq_true rfl)) dX2_may_7 ⟨Nat.le_of_ble_eq_true rfl, Nat.le_of_ble_eq_true rfl⟩) hS (bv_xout hh hlocks (Nat.le_of_ble_eq_true rfl) (Nat.le_of_ble_eq_true rfl) (fun k_2 => by have q9 := bv_rb_f (bI_1 k_2); rw [bI_t (bI_1 k_2)]; simp [sp_may, q9, r_1, bv_cl hj (by decide : 8 < 2 ^ 31), bv_nb, bv_up_at, bv_vw_10, bv_v0, bv_v1, bv_v2, bv_v3, bv_v9, bv_v11, bv_v12, bv_v13, bv_v14, bv_v15])) (fun H locs k_2 hP hS => ?_)
  have r_2 := bv_rb_t (Decidable.not_not.mp (bI_0 k_2))
  obtain ⟨q, hq, ej⟩ := bv_of16 (Decidable.not_not.mp (bI_0 k_2))
  subst ej
  refine lv_aload_n hx hb dX2_may_10 rfl (lv_at hl 1 rfl) ?_
  refine lv_iload_n hx hb dX2_may_11 rfl (lv_at hl 2 rfl) ?_
  refine lv_aload_n hx hb dX2_may_12 rfl (lv_at hl 0 rfl) ?_
  refine lv_iload_n hx hb dX2_may_13 rfl (lv_at hl 3 rfl) ?_
  refine bv_ci (va_runV (As := [.int (nI j), .ref (bv_a G (11 + j)), .int (nI q)]) (rest := []) ⟨hx, hb, hml, hown, hts⟩ (c_X2_rightOf l G S M z n j q (hn) (hI) (by omega) (by omega)) (cwV 3 hts gX2_may_X2_rightOf rfl rfl rfl (by decide +kernel) ⟨Nat.le_of_ble_eq_true rfl, Nat.le_of_ble_eq_true rfl⟩) (bv_preV hz hP hK hE hS (ci := 2) (bv_c0 G _ _ _) rfl rfl) rfl rfl hl.1 rfl (lv_room (Nat.le_of_ble_eq_true rfl)) dX2_may_14 ⟨Nat.le_of_ble_eq_true rfl, Nat.le_of_ble_eq_true rfl⟩) hS (fun H locs hP hS => ?_)
  have hW : bv_H G (bv_vw (sp_may S (nI j) (nI q)).2.2) M z H := by
    rw [show (sp_may S (nI j) (nI q)).2.2 = S from by simp [sp_may, r_1, bv_cl hj (by decide : 8 < 2 ^ 31), r_2, bv_cl hq (by decide : 16 < 2 ^ 31), bv_nb, bv_up_at, bv_vw_10, bv_v0, bv_v1, bv_v2, bv_v3, bv_v9, bv_v11, bv_v12, bv_v13, bv_v14, bv_v15]]
    exact hP
  exact bv_xiret hx hb hr hlocks hS (Nat.le_of_ble_eq_true rfl) (Nat.le_of_ble_eq_true rfl) dX2_may_17 (by simp [sp_may, r_1, bv_cl hj (by decide : 8 < 2 ^ 31), r_2, bv_cl hq (by decide : 16 < 2 ^ 31), bv_nb, bv_up_at, bv_vw_10, bv_v0, bv_v1, bv_v2, bv_v3, bv_v9, bv_v11, bv_v12, bv_v13, bv_v14, bv_v15]) (by simp [sp_may, r_1, bv_cl hj (by decide : 8 < 2 ^ 31), r_2, bv_cl hq (by decide : 16 < 2 ^ 31), bv_nb, bv_up_at, bv_vw_10, bv_v0, bv_v1, bv_v2, bv_v3, bv_v9, bv_v11, bv_v12, bv_v13, bv_v14, bv_v15]) hW
set_option maxHeartbeats 4000000 in
set_option maxRecDepth 100000 in
theorem c_X2_refusals (l : Launch) (hlt : l.stackTraces = false) (G : bv_G) (S M : bv_X) (z : bv_Z) (n : Nat) (p0 : Int32) (hn : n ≤ 1000) (hI : bv_I n S) : bv_Mx l yX2_refusals wsX2_refusals ({ frames := 8, cells := 1, slots := 6, locals := 124 }) [.ref (bv_a G 0), .int p0] G (bv_vw S) M z ((sp_refusals S p0).1) "java/lang/IllegalArgumentException" ((sp_refusals S p0).2.1) (bv_vw (sp_refusals S p0).2.2) M z := by
  refine vx_ofW (cc := cX2_refusals) (maxL := 2) (ret := (some .int)) (by decide) rfl ?_
  intro p e s m args below meth c s₁ B hml hh hv
  obtain ⟨rfl, hz, hP, hK, hE⟩ := hv
  have hx := B.exec
  have hb := B.bytes
  have hr := B.returns
  have hts := atoms_spec (ws := wsX2_refusals) B.pre
  have hown : s.vm.findClass RX2 = some m.cls := findClass_of_methodNamed B.named
  have hlocks := B.notSynchronized
  have hS : va_S (bv_A G) s.heap s.heap [] := va_S.rf
  have wl0 := hts (.fieldLink RX2 30 "BoxVault" "refused" "[I") (by decide +kernel)
  have hin2 : ∀ w ∈ wsX20, w ∈ wsX2_refusals := (fun w h => List.mem_cons_of_mem _ (List.mem_append_left _ (List.mem_append_right _ h)))
  have hl := lv_entry ([.ref (bv_a G 0), .int p0]) (n := 2) (Nat.le_of_ble_eq_true rfl)
  rw [lg_entry_eq]
  generalize (lg_sl ([.ref (bv_a G 0), .int p0]) ++ List.replicate (2 - (lg_sl ([.ref (bv_a G 0), .int p0])).length) Slot.unset).toArray = ls at hl ⊢
  have hl : lv_has ls 2 [(0, .ref (bv_a G 0)), (1, .int p0)] := hl
  refine lv_iload_n hx hb dX2_refusals_0 rfl (lv_at hl 1 rfl) ?_
  refine bv_cxv (vx_runS (As := [.int p0]) (rest := []) ⟨hx, hb, hml, hown, hts⟩ (c_X2_requirePerson l hlt G (bv_vw S) M z p0 ) (va_cwS 1 hts gX2_refusals_X2_requirePerson rfl rfl rfl (by decide +kernel) ⟨Nat.le_of_ble_eq_true rfl, Nat.le_of_ble_eq_true rfl⟩) (bv_preS hz hP hK hE hS) rfl rfl hl.1 rfl (lv_room (Nat.le_of_ble_eq_true rfl)) dX2_refusals_1 ⟨Nat.le_of_ble_eq_true rfl, Nat.le_of_ble_eq_true rfl⟩) hS (bv_xout hh hlocks (Nat.le_of_ble_eq_true rfl) (Nat.le_of_ble_eq_true rfl) (fun k_1 => by have q9 := bv_rb_f (bI_1 k_1); rw [bI_t (bI_1 k_1)]; simp [sp_refusals, q9, bv_nb, bv_up_at, bv_vw_10, bv_v0, bv_v1, bv_v2, bv_v3, bv_v9, bv_v11, bv_v12, bv_v13, bv_v14, bv_v15])) (fun H locs k_1 hP hS => ?_)
  have r_1 := bv_rb_t (Decidable.not_not.mp (bI_0 k_1))
  obtain ⟨q, hq, ej⟩ := bv_of16 (Decidable.not_not.mp (bI_0 k_1))
  subst ej
  refine lv_aload_n hx hb dX2_refusals_4 rfl (lv_at hl 0 rfl) ?_
  refine bv_get_f (ci := 2) (C := RX2) (T := TX2) (N := 6) hx hb hts hin2 hown hK hP (bv_c0 G _ _ _) rfl 4 (by decide) wl0 rfl rfl dX2_refusals_5 ?_
  refine lv_iload_n hx hb dX2_refusals_8 rfl (lv_at hl 1 rfl) ?_
  refine bv_iald hx hb hK hP 5 (bv_c5 G _ _ _) q (rfl) (hq) (by decide) dX2_refusals_9 ?_
  have hW : bv_H G (bv_vw (sp_refusals S (nI q)).2.2) M z H := by
    rw [show (sp_refusals S (nI q)).2.2 = S from by simp [sp_refusals, r_1, bv_cl hq (by decide : 16 < 2 ^ 31), bv_nb, bv_up_at, bv_vw_10, bv_v0, bv_v1, bv_v2, bv_v3, bv_v9, bv_v11, bv_v12, bv_v13, bv_v14, bv_v15]]
    exact hP
  exact bv_xiret hx hb hr hlocks hS (Nat.le_of_ble_eq_true rfl) (Nat.le_of_ble_eq_true rfl) dX2_refusals_10 (by simp [sp_refusals, r_1, bv_cl hq (by decide : 16 < 2 ^ 31), bv_nb, bv_up_at, bv_vw_10, bv_v0, bv_v1, bv_v2, bv_v3, bv_v9, bv_v11, bv_v12, bv_v13, bv_v14, bv_v15]) (by simp [sp_refusals, r_1, bv_cl hq (by decide : 16 < 2 ^ 31), bv_nb, bv_up_at, bv_vw_10, bv_v0, bv_v1, bv_v2, bv_v3, bv_v9, bv_v11, bv_v12, bv_v13, bv_v14, bv_v15]) hW
set_option maxHeartbeats 4000000 in
set_option maxRecDepth 100000 in
theorem c_X2_holder (l : Launch) (hlt : l.stackTraces = false) (G : bv_G) (S M : bv_X) (z : bv_Z) (n : Nat) (p0 : Int32) (hn : n ≤ 1000) (hI : bv_I n S) : bv_Mx l yX2_holder wsX2_holder ({ frames := 8, cells := 1, slots := 6, locals := 125 }) [.ref (bv_a G 0), .int p0] G (bv_vw S) M z ((sp_holder S p0).1) "java/lang/IllegalArgumentException" ((sp_holder S p0).2.1) (bv_vw (sp_holder S p0).2.2) M z := by
  refine vx_ofW (cc := cX2_holder) (maxL := 2) (ret := (some .int)) (by decide) rfl ?_
  intro p e s m args below meth c s₁ B hml hh hv
  obtain ⟨rfl, hz, hP, hK, hE⟩ := hv
  have hx := B.exec
  have hb := B.bytes
  have hr := B.returns
  have hts := atoms_spec (ws := wsX2_holder) B.pre
  have hown : s.vm.findClass RX2 = some m.cls := findClass_of_methodNamed B.named
  have hlocks := B.notSynchronized
  have hS : va_S (bv_A G) s.heap s.heap [] := va_S.rf
  have hin0 : ∀ w ∈ wsX00, w ∈ wsX2_holder := (fun w h => List.mem_cons_of_mem _ (List.mem_append_left _ (List.mem_append_left _ (List.mem_append_right _ h))))
  have hl := lv_entry ([.ref (bv_a G 0), .int p0]) (n := 2) (Nat.le_of_ble_eq_true rfl)
  rw [lg_entry_eq]
  generalize (lg_sl ([.ref (bv_a G 0), .int p0]) ++ List.replicate (2 - (lg_sl ([.ref (bv_a G 0), .int p0])).length) Slot.unset).toArray = ls at hl ⊢
  have hl : lv_has ls 2 [(0, .ref (bv_a G 0)), (1, .int p0)] := hl
  refine lv_aload_n hx hb dX2_holder_0 rfl (lv_at hl 0 rfl) ?_
  refine lv_iload_n hx hb dX2_holder_1 rfl (lv_at hl 1 rfl) ?_
  refine bv_cxr (vx_runV (As := [.int p0]) (rest := []) ⟨hx, hb, hml, hown, hts⟩ (c_X2_boxAt l hlt G (bv_vw S) M z p0 ) (cwV 1 hts gX2_holder_X2_boxAt rfl rfl rfl (by decide +kernel) ⟨Nat.le_of_ble_eq_true rfl, Nat.le_of_ble_eq_true rfl⟩) (bv_preV hz hP hK hE hS (ci := 2) (bv_c0 G _ _ _) rfl rfl) rfl rfl hl.1 rfl (lv_room (Nat.le_of_ble_eq_true rfl)) dX2_holder_2 ⟨Nat.le_of_ble_eq_true rfl, Nat.le_of_ble_eq_true rfl⟩) hS (bv_xout hh hlocks (Nat.le_of_ble_eq_true rfl) (Nat.le_of_ble_eq_true rfl) (fun k_1 => by have q9 := bv_rb_f (bI_1 k_1); rw [bI_t (bI_1 k_1)]; simp [sp_holder, q9, bv_nb, bv_up_at, bv_vw_10, bv_v0, bv_v1, bv_v2, bv_v3, bv_v9, bv_v11, bv_v12, bv_v13, bv_v14, bv_v15])) (fun H locs k_1 hP hS => ?_)
  have r_1 := bv_rb_t (Decidable.not_not.mp (bI_0 k_1))
  obtain ⟨j, hj, ej⟩ := bv_of8 (Decidable.not_not.mp (bI_0 k_1))
  subst ej
  rw [bv_cl hj (by decide)]
  refine bv_get_n (ref := "BoxVault$Box") (host := "BoxVault") (ci := 0) (C := RX0) (T := TX0) (N := 10) hx hb hts hin0 hown hK hP (bv_cB G _ _ _ (hj)) rfl 1 (by decide) hE (by decide +kernel) rfl rfl dX2_holder_5 ?_
  have hW : bv_H G (bv_vw (sp_holder S (nI j)).2.2) M z H := by
    rw [show (sp_holder S (nI j)).2.2 = S from by simp [sp_holder, r_1, bv_cl hj (by decide : 8 < 2 ^ 31), bv_nb, bv_up_at, bv_vw_10, bv_v0, bv_v1, bv_v2, bv_v3, bv_v9, bv_v11, bv_v12, bv_v13, bv_v14, bv_v15]]
    exact hP
  exact bv_xiret hx hb hr hlocks hS (Nat.le_of_ble_eq_true rfl) (Nat.le_of_ble_eq_true rfl) dX2_holder_8 (by simp [sp_holder, r_1, bv_cl hj (by decide : 8 < 2 ^ 31), bv_nb, bv_up_at, bv_vw_10, bv_v0, bv_v1, bv_v2, bv_v3, bv_v9, bv_v11, bv_v12, bv_v13, bv_v14, bv_v15]) (by simp [sp_holder, r_1, bv_cl hj (by decide : 8 < 2 ^ 31), bv_nb, bv_up_at, bv_vw_10, bv_v0, bv_v1, bv_v2, bv_v3, bv_v9, bv_v11, bv_v12, bv_v13, bv_v14, bv_v15]) hW
