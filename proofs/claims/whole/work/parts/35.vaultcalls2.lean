set_option maxHeartbeats 4000000 in
set_option maxRecDepth 100000 in
theorem c_X2_giveBack (l : Launch) (hlt : l.stackTraces = false) (G : bv_G) (S M : bv_X) (z : bv_Z) (n : Nat) (p0 : Int32) (p1 : Int32) (hn : n ≤ 1000) (hI : bv_I n S) : bv_Mx l yX2_giveBack wsX2_giveBack ({ frames := 8, cells := 4, slots := 24, locals := 125 }) [.ref (bv_a G 0), .int p0, .int p1] G (bv_vw S) M z ((sp_giveBack S p0 p1).1) "java/lang/IllegalArgumentException" ((sp_giveBack S p0 p1).2.1) (bv_vw (sp_giveBack S p0 p1).2.2) M z := by
  refine vx_ofW (cc := cX2_giveBack) (maxL := 5) (ret := (some .int)) (by decide) rfl ?_
  intro p e s m args below meth c s₁ B hml hh hv
  obtain ⟨rfl, hz, hP, hK, hE⟩ := hv
  have hx := B.exec
  have hb := B.bytes
  have hr := B.returns
  have hts := atoms_spec (ws := wsX2_giveBack) B.pre
  have hown : s.vm.findClass RX2 = some m.cls := findClass_of_methodNamed B.named
  have hlocks := B.notSynchronized
  have hS : va_S (bv_A G) s.heap s.heap [] := va_S.rf
  have hin0 : ∀ w ∈ wsX00, w ∈ wsX2_giveBack := (fun w h => List.mem_cons_of_mem _ (List.mem_append_left _ (List.mem_append_left _ (List.mem_append_left _ (List.mem_append_left _ (List.mem_append_right _ h))))))
  have hl := lv_entry ([.ref (bv_a G 0), .int p0, .int p1]) (n := 5) (Nat.le_of_ble_eq_true rfl)
  rw [lg_entry_eq]
  generalize (lg_sl ([.ref (bv_a G 0), .int p0, .int p1]) ++ List.replicate (5 - (lg_sl ([.ref (bv_a G 0), .int p0, .int p1])).length) Slot.unset).toArray = ls at hl ⊢
  have hl : lv_has ls 5 [(0, .ref (bv_a G 0)), (1, .int p0), (2, .int p1)] := hl
  obtain ⟨cn, hc, ec⟩ := bv_I_cnt hI
  have ecn : (S 0 1).toNatClampNeg = cn := by rw [ec]; exact nI_clamp (by omega)
  refine lv_aload_n hx hb dX2_giveBack_0 rfl (lv_at hl 0 rfl) ?_
  refine lv_iload_n hx hb dX2_giveBack_1 rfl (lv_at hl 1 rfl) ?_
  refine bv_cxr (vx_runV (As := [.int p0]) (rest := []) ⟨hx, hb, hml, hown, hts⟩ (c_X2_boxAt l hlt G (bv_vw S) M z p0 ) (cwV 1 hts gX2_giveBack_X2_boxAt rfl rfl rfl (by decide +kernel) ⟨Nat.le_of_ble_eq_true rfl, Nat.le_of_ble_eq_true rfl⟩) (bv_preV hz hP hK hE hS (ci := 2) (bv_c0 G _ _ _) rfl rfl) rfl rfl hl.1 rfl (lv_room (Nat.le_of_ble_eq_true rfl)) dX2_giveBack_2 ⟨Nat.le_of_ble_eq_true rfl, Nat.le_of_ble_eq_true rfl⟩) hS (bv_xout hh hlocks (Nat.le_of_ble_eq_true rfl) (Nat.le_of_ble_eq_true rfl) (fun k_1 => by have q9 := bv_rb_f (bI_1 k_1); rw [bI_t (bI_1 k_1)]; simp [sp_giveBack, q9, bv_nb, bv_up_at, bv_vw_10, bv_v0, bv_v1, bv_v2, bv_v3, bv_v9, bv_v11, bv_v12, bv_v13, bv_v14, bv_v15])) (fun H locs k_1 hP hS => ?_)
  have r_1 := bv_rb_t (Decidable.not_not.mp (bI_0 k_1))
  obtain ⟨j, hj, ej⟩ := bv_of8 (Decidable.not_not.mp (bI_0 k_1))
  subst ej
  rw [bv_cl hj (by decide)]
  refine lv_astore_n (lv' := [(3, .ref (bv_a G (11 + j))), (0, .ref (bv_a G 0)), (1, .int (nI j)), (2, .int p1)]) hx hb dX2_giveBack_5 rfl hl (by decide) rfl (fun ls hl => ?_)
  refine lv_iload_n hx hb dX2_giveBack_6 rfl (lv_at hl 3 rfl) ?_
  refine bv_cxv (vx_runS (As := [.int p1]) (rest := []) ⟨hx, hb, hml, hown, hts⟩ (c_X2_requirePerson l hlt G (bv_vw S) M z p1 ) (va_cwS 1 hts gX2_giveBack_X2_requirePerson rfl rfl rfl (by decide +kernel) ⟨Nat.le_of_ble_eq_true rfl, Nat.le_of_ble_eq_true rfl⟩) (bv_preS hz hP hK hE hS) rfl rfl hl.1 rfl (lv_room (Nat.le_of_ble_eq_true rfl)) dX2_giveBack_7 ⟨Nat.le_of_ble_eq_true rfl, Nat.le_of_ble_eq_true rfl⟩) hS (bv_xout hh hlocks (Nat.le_of_ble_eq_true rfl) (Nat.le_of_ble_eq_true rfl) (fun k_2 => by have q9 := bv_rb_f (bI_1 k_2); rw [bI_t (bI_1 k_2)]; simp [sp_giveBack, q9, r_1, bv_cl hj (by decide : 8 < 2 ^ 31), bv_nb, bv_up_at, bv_vw_10, bv_v0, bv_v1, bv_v2, bv_v3, bv_v9, bv_v11, bv_v12, bv_v13, bv_v14, bv_v15])) (fun H locs k_2 hP hS => ?_)
  have r_2 := bv_rb_t (Decidable.not_not.mp (bI_0 k_2))
  obtain ⟨q, hq, ej⟩ := bv_of16 (Decidable.not_not.mp (bI_0 k_2))
  subst ej
  refine lv_aload_n hx hb dX2_giveBack_10 rfl (lv_at hl 0 rfl) ?_
  refine bv_cxv (vx_runS (As := [.ref (bv_a G (11 + j))]) (rest := []) ⟨hx, hb, hml, hown, hts⟩ (c_X2_requireRented l hlt G (bv_vw S) M z j (by omega)) (va_cwS 1 hts gX2_giveBack_X2_requireRented rfl rfl rfl (by decide +kernel) ⟨Nat.le_of_ble_eq_true rfl, Nat.le_of_ble_eq_true rfl⟩) (bv_preS hz hP hK hE hS) rfl rfl hl.1 rfl (lv_room (Nat.le_of_ble_eq_true rfl)) dX2_giveBack_11 ⟨Nat.le_of_ble_eq_true rfl, Nat.le_of_ble_eq_true rfl⟩) hS (bv_xout hh hlocks (Nat.le_of_ble_eq_true rfl) (Nat.le_of_ble_eq_true rfl) (fun k_3 => by have q9 : ¬ S 9 j = 1 := bJ_1 k_3; rw [bJ_t (bJ_1 k_3)]; simp [sp_giveBack, bv_rt_r (q := q) q9, r_1, bv_cl hj (by decide : 8 < 2 ^ 31), r_2, bv_cl hq (by decide : 16 < 2 ^ 31), bv_nb, bv_up_at, bv_vw_10, bv_v0, bv_v1, bv_v2, bv_v3, bv_v9, bv_v11, bv_v12, bv_v13, bv_v14, bv_v15])) (fun H locs k_3 hP hS => ?_)
  have r_3 : S 9 j = 1 := Decidable.not_not.mp (bJ_0 k_3)
  refine lv_aload_n hx hb dX2_giveBack_14 rfl (lv_at hl 1 rfl) ?_
  refine lv_iload_n hx hb dX2_giveBack_15 rfl (lv_at hl 2 rfl) ?_
  refine lv_aload_n hx hb dX2_giveBack_16 rfl (lv_at hl 0 rfl) ?_
  refine lv_iload_n hx hb dX2_giveBack_17 rfl (lv_at hl 3 rfl) ?_
  refine bv_ci (va_runV (As := [.int (nI j), .ref (bv_a G (11 + j)), .int (nI q)]) (rest := []) ⟨hx, hb, hml, hown, hts⟩ (c_X2_rightOf l G S M z n j q (hn) (hI) (by omega) (by omega)) (cwV 3 hts gX2_giveBack_X2_rightOf rfl rfl rfl (by decide +kernel) ⟨Nat.le_of_ble_eq_true rfl, Nat.le_of_ble_eq_true rfl⟩) (bv_preV hz hP hK hE hS (ci := 2) (bv_c0 G _ _ _) rfl rfl) rfl rfl hl.1 rfl (lv_room (Nat.le_of_ble_eq_true rfl)) dX2_giveBack_18 ⟨Nat.le_of_ble_eq_true rfl, Nat.le_of_ble_eq_true rfl⟩) hS (fun H locs hP hS => ?_)
  refine lv_if_eq (tgt := 34) hx hb dX2_giveBack_21 (by decide) (fun c_4 => ?_) (fun c_4 => ?_)
  · have c_4 : (bv_rt S j q) = 0 := c_4
    refine lv_aload_n hx hb dX2_giveBack_34 rfl (lv_at hl 0 rfl) ?_
    refine bv_get_n (ref := "BoxVault$Box") (host := "BoxVault") (ci := 0) (C := RX0) (T := TX0) (N := 10) hx hb hts hin0 hown hK hP (bv_cB G _ _ _ (hj)) rfl 4 (by decide) hE (by decide +kernel) rfl rfl dX2_giveBack_35 ?_
    refine lv_istore (lv' := [(4, .int (S 13 j)), (3, .ref (bv_a G (11 + j))), (0, .ref (bv_a G 0)), (1, .int (nI j)), (2, .int (nI q))]) hx hb dX2_giveBack_38 hl (by decide) rfl (fun ls hl => ?_)
    refine lv_aload_n hx hb dX2_giveBack_40 rfl (lv_at hl 2 rfl) ?_
    refine lv_iload_n hx hb dX2_giveBack_41 rfl (lv_at hl 3 rfl) ?_
    refine lv_aload_n hx hb dX2_giveBack_42 rfl (lv_at hl 1 rfl) ?_
    refine bv_cv (va_runV (As := [.int (nI j), .ref (bv_a G (11 + j))]) (rest := []) ⟨hx, hb, hml, hown, hts⟩ (c_X2_makeFree l G (bv_vw S) M z j cn (by omega) (hc) (ec)) (cwV 2 hts gX2_giveBack_X2_makeFree rfl rfl rfl (by decide +kernel) ⟨Nat.le_of_ble_eq_true rfl, Nat.le_of_ble_eq_true rfl⟩) (bv_preV hz hP hK hE hS (ci := 2) (bv_c0 G _ _ _) rfl rfl) rfl rfl hl.1 rfl (lv_room (Nat.le_of_ble_eq_true rfl)) dX2_giveBack_43 ⟨Nat.le_of_ble_eq_true rfl, Nat.le_of_ble_eq_true rfl⟩) hS (fun H locs hP hS => ?_)
    refine lv_iload hx hb dX2_giveBack_46 (lv_at hl 0 rfl) ?_
    have hW : bv_H G (bv_vw (sp_giveBack S (nI j) (nI q)).2.2) M z H := by
      rw [show (sp_giveBack S (nI j) (nI q)).2.2 = bv_free S j from by simp [sp_giveBack, r_1, bv_cl hj (by decide : 8 < 2 ^ 31), r_2, bv_cl hq (by decide : 16 < 2 ^ 31), r_3, c_4, bv_nb, bv_up_at, bv_vw_10, bv_v0, bv_v1, bv_v2, bv_v3, bv_v9, bv_v11, bv_v12, bv_v13, bv_v14, bv_v15]]
      unfold bv_free
      rw [show bv_cnt S = cn from ecn, ← bv_vw_fr, ← bv_vw_up _ (by decide) (by decide) (by decide), ← bv_vw_free]
      exact hP
    exact bv_xiret hx hb hr hlocks hS (Nat.le_of_ble_eq_true rfl) (Nat.le_of_ble_eq_true rfl) dX2_giveBack_48 (by simp [sp_giveBack, r_1, bv_cl hj (by decide : 8 < 2 ^ 31), r_2, bv_cl hq (by decide : 16 < 2 ^ 31), r_3, c_4, bv_nb, bv_up_at, bv_vw_10, bv_v0, bv_v1, bv_v2, bv_v3, bv_v9, bv_v11, bv_v12, bv_v13, bv_v14, bv_v15]) (by simp [sp_giveBack, r_1, bv_cl hj (by decide : 8 < 2 ^ 31), r_2, bv_cl hq (by decide : 16 < 2 ^ 31), r_3, c_4, bv_nb, bv_up_at, bv_vw_10, bv_v0, bv_v1, bv_v2, bv_v3, bv_v9, bv_v11, bv_v12, bv_v13, bv_v14, bv_v15]) hW
  · have c_4 : ¬ (bv_rt S j q) = 0 := c_4
    exact bv_throw (cls := "java/lang/IllegalStateException") (text := "the person may not give the box back") (ik := 43) (is := 85) (ic := 47) hx hb hlt hts hown (by decide) (by decide +kernel) (by decide +kernel) (by decide) (fun w h => List.mem_cons_of_mem _ (List.mem_append_left _ (List.mem_append_right _ h))) bv_at47_2 bv_at47_g hE hS (by rw [hml]; exact hl.1) dX2_giveBack_24 dX2_giveBack_27 dX2_giveBack_28 dX2_giveBack_30 dX2_giveBack_33 hh (Nat.le_of_ble_eq_true rfl) (Nat.le_of_ble_eq_true rfl) (Nat.le_of_ble_eq_true rfl) (Nat.le_of_ble_eq_true rfl) hlocks (Nat.le_of_ble_eq_true rfl) (Nat.le_of_ble_eq_true rfl) hP (Or.inr ⟨rfl, (by simp [sp_giveBack, r_1, bv_cl hj (by decide : 8 < 2 ^ 31), r_2, bv_cl hq (by decide : 16 < 2 ^ 31), r_3, c_4, bv_nb, bv_up_at, bv_vw_10, bv_v0, bv_v1, bv_v2, bv_v3, bv_v9, bv_v11, bv_v12, bv_v13, bv_v14, bv_v15])⟩)
set_option maxHeartbeats 4000000 in
set_option maxRecDepth 100000 in
theorem c_X2_fetch (l : Launch) (hlt : l.stackTraces = false) (G : bv_G) (S M : bv_X) (z : bv_Z) (n : Nat) (p0 : Int32) (p1 : Int32) (hn : n ≤ 1000) (hI : bv_I n S) : bv_Mx l yX2_fetch wsX2_fetch ({ frames := 8, cells := 3, slots := 18, locals := 125 }) [.ref (bv_a G 0), .int p0, .int p1] G (bv_vw S) M z ((sp_fetch S p0 p1).1) "java/lang/IllegalArgumentException" ((sp_fetch S p0 p1).2.1) (bv_vw (sp_fetch S p0 p1).2.2) M z := by
  refine vx_ofW (cc := cX2_fetch) (maxL := 5) (ret := (some .int)) (by decide) rfl ?_
  intro p e s m args below meth c s₁ B hml hh hv
  obtain ⟨rfl, hz, hP, hK, hE⟩ := hv
  have hx := B.exec
  have hb := B.bytes
  have hr := B.returns
  have hts := atoms_spec (ws := wsX2_fetch) B.pre
  have hown : s.vm.findClass RX2 = some m.cls := findClass_of_methodNamed B.named
  have hlocks := B.notSynchronized
  have hS : va_S (bv_A G) s.heap s.heap [] := va_S.rf
  have hin0 : ∀ w ∈ wsX00, w ∈ wsX2_fetch := (fun w h => List.mem_cons_of_mem _ (List.mem_append_left _ (List.mem_append_left _ (List.mem_append_left _ (List.mem_append_left _ (List.mem_append_right _ h))))))
  have hl := lv_entry ([.ref (bv_a G 0), .int p0, .int p1]) (n := 5) (Nat.le_of_ble_eq_true rfl)
  rw [lg_entry_eq]
  generalize (lg_sl ([.ref (bv_a G 0), .int p0, .int p1]) ++ List.replicate (5 - (lg_sl ([.ref (bv_a G 0), .int p0, .int p1])).length) Slot.unset).toArray = ls at hl ⊢
  have hl : lv_has ls 5 [(0, .ref (bv_a G 0)), (1, .int p0), (2, .int p1)] := hl
  obtain ⟨cn, hc, ec⟩ := bv_I_cnt hI
  have ecn : (S 0 1).toNatClampNeg = cn := by rw [ec]; exact nI_clamp (by omega)
  refine lv_aload_n hx hb dX2_fetch_0 rfl (lv_at hl 0 rfl) ?_
  refine lv_iload_n hx hb dX2_fetch_1 rfl (lv_at hl 1 rfl) ?_
  refine bv_cxr (vx_runV (As := [.int p0]) (rest := []) ⟨hx, hb, hml, hown, hts⟩ (c_X2_boxAt l hlt G (bv_vw S) M z p0 ) (cwV 1 hts gX2_fetch_X2_boxAt rfl rfl rfl (by decide +kernel) ⟨Nat.le_of_ble_eq_true rfl, Nat.le_of_ble_eq_true rfl⟩) (bv_preV hz hP hK hE hS (ci := 2) (bv_c0 G _ _ _) rfl rfl) rfl rfl hl.1 rfl (lv_room (Nat.le_of_ble_eq_true rfl)) dX2_fetch_2 ⟨Nat.le_of_ble_eq_true rfl, Nat.le_of_ble_eq_true rfl⟩) hS (bv_xout hh hlocks (Nat.le_of_ble_eq_true rfl) (Nat.le_of_ble_eq_true rfl) (fun k_1 => by have q9 := bv_rb_f (bI_1 k_1); rw [bI_t (bI_1 k_1)]; simp [sp_fetch, q9, bv_nb, bv_up_at, bv_vw_10, bv_v0, bv_v1, bv_v2, bv_v3, bv_v9, bv_v11, bv_v12, bv_v13, bv_v14, bv_v15])) (fun H locs k_1 hP hS => ?_)
  have r_1 := bv_rb_t (Decidable.not_not.mp (bI_0 k_1))
  obtain ⟨j, hj, ej⟩ := bv_of8 (Decidable.not_not.mp (bI_0 k_1))
  subst ej
  rw [bv_cl hj (by decide)]
  refine lv_astore_n (lv' := [(3, .ref (bv_a G (11 + j))), (0, .ref (bv_a G 0)), (1, .int (nI j)), (2, .int p1)]) hx hb dX2_fetch_5 rfl hl (by decide) rfl (fun ls hl => ?_)
  refine lv_iload_n hx hb dX2_fetch_6 rfl (lv_at hl 3 rfl) ?_
  refine bv_cxv (vx_runS (As := [.int p1]) (rest := []) ⟨hx, hb, hml, hown, hts⟩ (c_X2_requirePerson l hlt G (bv_vw S) M z p1 ) (va_cwS 1 hts gX2_fetch_X2_requirePerson rfl rfl rfl (by decide +kernel) ⟨Nat.le_of_ble_eq_true rfl, Nat.le_of_ble_eq_true rfl⟩) (bv_preS hz hP hK hE hS) rfl rfl hl.1 rfl (lv_room (Nat.le_of_ble_eq_true rfl)) dX2_fetch_7 ⟨Nat.le_of_ble_eq_true rfl, Nat.le_of_ble_eq_true rfl⟩) hS (bv_xout hh hlocks (Nat.le_of_ble_eq_true rfl) (Nat.le_of_ble_eq_true rfl) (fun k_2 => by have q9 := bv_rb_f (bI_1 k_2); rw [bI_t (bI_1 k_2)]; simp [sp_fetch, q9, r_1, bv_cl hj (by decide : 8 < 2 ^ 31), bv_nb, bv_up_at, bv_vw_10, bv_v0, bv_v1, bv_v2, bv_v3, bv_v9, bv_v11, bv_v12, bv_v13, bv_v14, bv_v15])) (fun H locs k_2 hP hS => ?_)
  have r_2 := bv_rb_t (Decidable.not_not.mp (bI_0 k_2))
  obtain ⟨q, hq, ej⟩ := bv_of16 (Decidable.not_not.mp (bI_0 k_2))
  subst ej
  refine lv_aload_n hx hb dX2_fetch_10 rfl (lv_at hl 0 rfl) ?_
  refine bv_get_n (ref := "BoxVault$Box") (host := "BoxVault") (ci := 0) (C := RX0) (T := TX0) (N := 10) hx hb hts hin0 hown hK hP (bv_cB G _ _ _ (hj)) rfl 0 (by decide) hE (by decide +kernel) rfl rfl dX2_fetch_11 ?_
  refine lv_iconst (v := 2) hx hb dX2_fetch_14 (by decide) ?_
  refine lv_icmp_eq (tgt := 28) hx hb dX2_fetch_15 (by decide) (fun c_3 => ?_) (fun c_3 => ?_)
  · have c_3 : (S 9 j) = 2 := c_3
    refine lv_aload_n hx hb dX2_fetch_28 rfl (lv_at hl 1 rfl) ?_
    refine lv_iload_n hx hb dX2_fetch_29 rfl (lv_at hl 2 rfl) ?_
    refine lv_aload_n hx hb dX2_fetch_30 rfl (lv_at hl 0 rfl) ?_
    refine lv_iload_n hx hb dX2_fetch_31 rfl (lv_at hl 3 rfl) ?_
    refine bv_ci (va_runV (As := [.int (nI j), .ref (bv_a G (11 + j)), .int (nI q)]) (rest := []) ⟨hx, hb, hml, hown, hts⟩ (c_X2_mayFetch l G S M z n j q (hn) (hI) (by omega) (by omega) (by assumption)) (cwV 3 hts gX2_fetch_X2_mayFetch rfl rfl rfl (by decide +kernel) ⟨Nat.le_of_ble_eq_true rfl, Nat.le_of_ble_eq_true rfl⟩) (bv_preV hz hP hK hE hS (ci := 2) (bv_c0 G _ _ _) rfl rfl) rfl rfl hl.1 rfl (lv_room (Nat.le_of_ble_eq_true rfl)) dX2_fetch_32 ⟨Nat.le_of_ble_eq_true rfl, Nat.le_of_ble_eq_true rfl⟩) hS (fun H locs hP hS => ?_)
    refine bv_ifneB (tgt := 48) hx hb dX2_fetch_35 (by decide) (fun c_4 => ?_) (fun c_4 => ?_)
    · have c_4 : (bv_mf S j q) := c_4
      have c_f5 := eq_true c_4
      refine lv_aload_n hx hb dX2_fetch_48 rfl (lv_at hl 0 rfl) ?_
      refine bv_get_n (ref := "BoxVault$Box") (host := "BoxVault") (ci := 0) (C := RX0) (T := TX0) (N := 10) hx hb hts hin0 hown hK hP (bv_cB G _ _ _ (hj)) rfl 3 (by decide) hE (by decide +kernel) rfl rfl dX2_fetch_49 ?_
      refine lv_istore (lv' := [(4, .int (S 12 j)), (3, .ref (bv_a G (11 + j))), (0, .ref (bv_a G 0)), (1, .int (nI j)), (2, .int (nI q))]) hx hb dX2_fetch_52 hl (by decide) rfl (fun ls hl => ?_)
      refine lv_aload_n hx hb dX2_fetch_54 rfl (lv_at hl 2 rfl) ?_
      refine lv_iload_n hx hb dX2_fetch_55 rfl (lv_at hl 3 rfl) ?_
      refine lv_aload_n hx hb dX2_fetch_56 rfl (lv_at hl 1 rfl) ?_
      refine bv_cv (va_runV (As := [.int (nI j), .ref (bv_a G (11 + j))]) (rest := []) ⟨hx, hb, hml, hown, hts⟩ (c_X2_makeFree l G (bv_vw S) M z j cn (by omega) (hc) (ec)) (cwV 2 hts gX2_fetch_X2_makeFree rfl rfl rfl (by decide +kernel) ⟨Nat.le_of_ble_eq_true rfl, Nat.le_of_ble_eq_true rfl⟩) (bv_preV hz hP hK hE hS (ci := 2) (bv_c0 G _ _ _) rfl rfl) rfl rfl hl.1 rfl (lv_room (Nat.le_of_ble_eq_true rfl)) dX2_fetch_57 ⟨Nat.le_of_ble_eq_true rfl, Nat.le_of_ble_eq_true rfl⟩) hS (fun H locs hP hS => ?_)
      refine lv_iload hx hb dX2_fetch_60 (lv_at hl 0 rfl) ?_
      have hW : bv_H G (bv_vw (sp_fetch S (nI j) (nI q)).2.2) M z H := by
        rw [show (sp_fetch S (nI j) (nI q)).2.2 = bv_free S j from by simp [sp_fetch, r_1, bv_cl hj (by decide : 8 < 2 ^ 31), r_2, bv_cl hq (by decide : 16 < 2 ^ 31), c_3, c_f5, bv_nb, bv_up_at, bv_vw_10, bv_v0, bv_v1, bv_v2, bv_v3, bv_v9, bv_v11, bv_v12, bv_v13, bv_v14, bv_v15]]
        unfold bv_free
        rw [show bv_cnt S = cn from ecn, ← bv_vw_fr, ← bv_vw_up _ (by decide) (by decide) (by decide), ← bv_vw_free]
        exact hP
      exact bv_xiret hx hb hr hlocks hS (Nat.le_of_ble_eq_true rfl) (Nat.le_of_ble_eq_true rfl) dX2_fetch_62 (by simp [sp_fetch, r_1, bv_cl hj (by decide : 8 < 2 ^ 31), r_2, bv_cl hq (by decide : 16 < 2 ^ 31), c_3, c_f5, bv_nb, bv_up_at, bv_vw_10, bv_v0, bv_v1, bv_v2, bv_v3, bv_v9, bv_v11, bv_v12, bv_v13, bv_v14, bv_v15]) (by simp [sp_fetch, r_1, bv_cl hj (by decide : 8 < 2 ^ 31), r_2, bv_cl hq (by decide : 16 < 2 ^ 31), c_3, c_f5, bv_nb, bv_up_at, bv_vw_10, bv_v0, bv_v1, bv_v2, bv_v3, bv_v9, bv_v11, bv_v12, bv_v13, bv_v14, bv_v15]) hW
    · have c_4 : ¬ (bv_mf S j q) := c_4
      have c_f6 := eq_false c_4
      exact bv_throw (cls := "java/lang/IllegalStateException") (text := "the person may not fetch it") (ik := 43) (is := 134) (ic := 47) hx hb hlt hts hown (by decide) (by decide +kernel) (by decide +kernel) (by decide) (fun w h => List.mem_cons_of_mem _ (List.mem_append_left _ (List.mem_append_right _ h))) bv_at47_2 bv_at47_g hE hS (by rw [hml]; exact hl.1) dX2_fetch_38 dX2_fetch_41 dX2_fetch_42 dX2_fetch_44 dX2_fetch_47 hh (Nat.le_of_ble_eq_true rfl) (Nat.le_of_ble_eq_true rfl) (Nat.le_of_ble_eq_true rfl) (Nat.le_of_ble_eq_true rfl) hlocks (Nat.le_of_ble_eq_true rfl) (Nat.le_of_ble_eq_true rfl) hP (Or.inr ⟨rfl, (by simp [sp_fetch, r_1, bv_cl hj (by decide : 8 < 2 ^ 31), r_2, bv_cl hq (by decide : 16 < 2 ^ 31), c_3, c_f6, bv_nb, bv_up_at, bv_vw_10, bv_v0, bv_v1, bv_v2, bv_v3, bv_v9, bv_v11, bv_v12, bv_v13, bv_v14, bv_v15])⟩)
  · have c_3 : ¬ (S 9 j) = 2 := c_3
    exact bv_throw (cls := "java/lang/IllegalStateException") (text := "the box is not drilled") (ik := 43) (is := 128) (ic := 47) hx hb hlt hts hown (by decide) (by decide +kernel) (by decide +kernel) (by decide) (fun w h => List.mem_cons_of_mem _ (List.mem_append_left _ (List.mem_append_right _ h))) bv_at47_2 bv_at47_g hE hS (by rw [hml]; exact hl.1) dX2_fetch_18 dX2_fetch_21 dX2_fetch_22 dX2_fetch_24 dX2_fetch_27 hh (Nat.le_of_ble_eq_true rfl) (Nat.le_of_ble_eq_true rfl) (Nat.le_of_ble_eq_true rfl) (Nat.le_of_ble_eq_true rfl) hlocks (Nat.le_of_ble_eq_true rfl) (Nat.le_of_ble_eq_true rfl) hP (Or.inr ⟨rfl, (by simp [sp_fetch, r_1, bv_cl hj (by decide : 8 < 2 ^ 31), r_2, bv_cl hq (by decide : 16 < 2 ^ 31), c_3, bv_nb, bv_up_at, bv_vw_10, bv_v0, bv_v1, bv_v2, bv_v3, bv_v9, bv_v11, bv_v12, bv_v13, bv_v14, bv_v15])⟩)
set_option maxHeartbeats 4000000 in
set_option maxRecDepth 100000 in
theorem c_X2_drill (l : Launch) (hlt : l.stackTraces = false) (G : bv_G) (S M : bv_X) (z : bv_Z) (n : Nat) (p0 : Int32) (p1 : Int32) (p2 : Int32) (hn : n ≤ 1000) (hI : bv_I n S) : bv_Mx l yX2_drill wsX2_drill ({ frames := 8, cells := 5, slots := 30, locals := 125 }) [.ref (bv_a G 0), .int p0, .int p1, .int p2] G (bv_vw S) M z ((sp_drill S p0 p1 p2).1) "java/lang/IllegalArgumentException" ((sp_drill S p0 p1 p2).2.1) (bv_vw (sp_drill S p0 p1 p2).2.2) M z := by
  refine vx_ofW (cc := cX2_drill) (maxL := 5) (ret := (some .int)) (by decide) rfl ?_
  intro p e s m args below meth c s₁ B hml hh hv
  obtain ⟨rfl, hz, hP, hK, hE⟩ := hv
  have hx := B.exec
  have hb := B.bytes
  have hr := B.returns
  have hts := atoms_spec (ws := wsX2_drill) B.pre
  have hown : s.vm.findClass RX2 = some m.cls := findClass_of_methodNamed B.named
  have hlocks := B.notSynchronized
  have hS : va_S (bv_A G) s.heap s.heap [] := va_S.rf
  have wl0 := hts (.fieldLink RX2 33 "BoxVault" "today" "I") (by decide +kernel)
  have wl1 := hts (.initialized RX0) (by decide +kernel)
  have wl2 := hts (.instanceMethod yX0_noticesOn) (by decide +kernel)
  have wl3 := hts (.selects RX0 yX0_noticesOn yX0_noticesOn) (by decide +kernel)
  have wl4 := hts (.fieldLink RX2 18 "BoxVault" "orders" "LBoxVault$OrderBook;") (by decide +kernel)
  have wl5 := hts (.initialized RX1) (by decide +kernel)
  have wl6 := hts (.instanceMethod yX1_bindingOn) (by decide +kernel)
  have wl7 := hts (.selects RX1 yX1_bindingOn yX1_bindingOn) (by decide +kernel)
  have wl8 := hts (.instanceMethod yX1_kindOf) (by decide +kernel)
  have wl9 := hts (.selects RX1 yX1_kindOf yX1_kindOf) (by decide +kernel)
  have wl10 := hts (.instanceMethod yX0_breakOpen) (by decide +kernel)
  have wl11 := hts (.selects RX0 yX0_breakOpen yX0_breakOpen) (by decide +kernel)
  have hin0 : ∀ w ∈ wsX00, w ∈ wsX2_drill := (fun w h => List.mem_cons_of_mem _ (List.mem_append_left _ (List.mem_append_left _ (List.mem_append_left _ (List.mem_append_right _ h)))))
  have hin2 : ∀ w ∈ wsX20, w ∈ wsX2_drill := (fun w h => List.mem_cons_of_mem _ (List.mem_append_left _ (List.mem_append_left _ (List.mem_append_left _ (List.mem_append_left _ (List.mem_append_right _ h))))))
  have hl := lv_entry ([.ref (bv_a G 0), .int p0, .int p1, .int p2]) (n := 5) (Nat.le_of_ble_eq_true rfl)
  rw [lg_entry_eq]
  generalize (lg_sl ([.ref (bv_a G 0), .int p0, .int p1, .int p2]) ++ List.replicate (5 - (lg_sl ([.ref (bv_a G 0), .int p0, .int p1, .int p2])).length) Slot.unset).toArray = ls at hl ⊢
  have hl : lv_has ls 5 [(0, .ref (bv_a G 0)), (1, .int p0), (2, .int p1), (3, .int p2)] := hl
  obtain ⟨cn, hc, ec⟩ := bv_I_cnt hI
  refine lv_aload_n hx hb dX2_drill_0 rfl (lv_at hl 0 rfl) ?_
  refine lv_iload_n hx hb dX2_drill_1 rfl (lv_at hl 1 rfl) ?_
  refine bv_cxr (vx_runV (As := [.int p0]) (rest := []) ⟨hx, hb, hml, hown, hts⟩ (c_X2_boxAt l hlt G (bv_vw S) M z p0 ) (cwV 1 hts gX2_drill_X2_boxAt rfl rfl rfl (by decide +kernel) ⟨Nat.le_of_ble_eq_true rfl, Nat.le_of_ble_eq_true rfl⟩) (bv_preV hz hP hK hE hS (ci := 2) (bv_c0 G _ _ _) rfl rfl) rfl rfl hl.1 rfl (lv_room (Nat.le_of_ble_eq_true rfl)) dX2_drill_2 ⟨Nat.le_of_ble_eq_true rfl, Nat.le_of_ble_eq_true rfl⟩) hS (bv_xout hh hlocks (Nat.le_of_ble_eq_true rfl) (Nat.le_of_ble_eq_true rfl) (fun k_1 => by have q9 := bv_rb_f (bI_1 k_1); rw [bI_t (bI_1 k_1)]; simp [sp_drill, q9, bv_nb, bv_up_at, bv_vw_10, bv_v0, bv_v1, bv_v2, bv_v3, bv_v9, bv_v11, bv_v12, bv_v13, bv_v14, bv_v15])) (fun H locs k_1 hP hS => ?_)
  have r_1 := bv_rb_t (Decidable.not_not.mp (bI_0 k_1))
  obtain ⟨j, hj, ej⟩ := bv_of8 (Decidable.not_not.mp (bI_0 k_1))
  subst ej
  rw [bv_cl hj (by decide)]
  refine lv_astore (lv' := [(4, .ref (bv_a G (11 + j))), (0, .ref (bv_a G 0)), (1, .int (nI j)), (2, .int p1), (3, .int p2)]) hx hb dX2_drill_5 hl (by decide) rfl (fun ls hl => ?_)
  refine lv_iload_n hx hb dX2_drill_7 rfl (lv_at hl 3 rfl) ?_
  refine bv_cxv (vx_runS (As := [.int p1]) (rest := []) ⟨hx, hb, hml, hown, hts⟩ (c_X2_requirePerson l hlt G (bv_vw S) M z p1 ) (va_cwS 1 hts gX2_drill_X2_requirePerson rfl rfl rfl (by decide +kernel) ⟨Nat.le_of_ble_eq_true rfl, Nat.le_of_ble_eq_true rfl⟩) (bv_preS hz hP hK hE hS) rfl rfl hl.1 rfl (lv_room (Nat.le_of_ble_eq_true rfl)) dX2_drill_8 ⟨Nat.le_of_ble_eq_true rfl, Nat.le_of_ble_eq_true rfl⟩) hS (bv_xout hh hlocks (Nat.le_of_ble_eq_true rfl) (Nat.le_of_ble_eq_true rfl) (fun k_2 => by have q9 := bv_rb_f (bI_1 k_2); rw [bI_t (bI_1 k_2)]; simp [sp_drill, q9, r_1, bv_cl hj (by decide : 8 < 2 ^ 31), bv_nb, bv_up_at, bv_vw_10, bv_v0, bv_v1, bv_v2, bv_v3, bv_v9, bv_v11, bv_v12, bv_v13, bv_v14, bv_v15])) (fun H locs k_2 hP hS => ?_)
  have r_2 := bv_rb_t (Decidable.not_not.mp (bI_0 k_2))
  obtain ⟨q, hq, ej⟩ := bv_of16 (Decidable.not_not.mp (bI_0 k_2))
  subst ej
  refine lv_iload_n hx hb dX2_drill_11 rfl (lv_at hl 4 rfl) ?_
  refine bv_cxv (vx_runS (As := [.int p2]) (rest := []) ⟨hx, hb, hml, hown, hts⟩ (c_X2_requirePerson l hlt G (bv_vw S) M z p2 ) (va_cwS 1 hts gX2_drill_X2_requirePerson rfl rfl rfl (by decide +kernel) ⟨Nat.le_of_ble_eq_true rfl, Nat.le_of_ble_eq_true rfl⟩) (bv_preS hz hP hK hE hS) rfl rfl hl.1 rfl (lv_room (Nat.le_of_ble_eq_true rfl)) dX2_drill_12 ⟨Nat.le_of_ble_eq_true rfl, Nat.le_of_ble_eq_true rfl⟩) hS (bv_xout hh hlocks (Nat.le_of_ble_eq_true rfl) (Nat.le_of_ble_eq_true rfl) (fun k_3 => by have q9 := bv_rb_f (bI_1 k_3); rw [bI_t (bI_1 k_3)]; simp [sp_drill, q9, r_1, bv_cl hj (by decide : 8 < 2 ^ 31), r_2, bv_cl hq (by decide : 16 < 2 ^ 31), bv_nb, bv_up_at, bv_vw_10, bv_v0, bv_v1, bv_v2, bv_v3, bv_v9, bv_v11, bv_v12, bv_v13, bv_v14, bv_v15])) (fun H locs k_3 hP hS => ?_)
  have r_3 := bv_rb_t (Decidable.not_not.mp (bI_0 k_3))
  obtain ⟨q2, hq2, ej⟩ := bv_of16 (Decidable.not_not.mp (bI_0 k_3))
  subst ej
  refine lv_iload_n hx hb dX2_drill_15 rfl (lv_at hl 3 rfl) ?_
  refine lv_iload_n hx hb dX2_drill_16 rfl (lv_at hl 4 rfl) ?_
  refine lv_icmp_ne (tgt := 30) hx hb dX2_drill_17 (by decide) (fun c_4 => ?_) (fun c_4 => ?_)
  · have c_4 : ¬ (nI q) = (nI q2) := c_4
    refine lv_aload hx hb dX2_drill_30 (lv_at hl 0 rfl) ?_
    refine bv_cxv (vx_runS (As := [.ref (bv_a G (11 + j))]) (rest := []) ⟨hx, hb, hml, hown, hts⟩ (c_X2_requireRented l hlt G (bv_vw S) M z j (by omega)) (va_cwS 1 hts gX2_drill_X2_requireRented rfl rfl rfl (by decide +kernel) ⟨Nat.le_of_ble_eq_true rfl, Nat.le_of_ble_eq_true rfl⟩) (bv_preS hz hP hK hE hS) rfl rfl hl.1 rfl (lv_room (Nat.le_of_ble_eq_true rfl)) dX2_drill_32 ⟨Nat.le_of_ble_eq_true rfl, Nat.le_of_ble_eq_true rfl⟩) hS (bv_xout hh hlocks (Nat.le_of_ble_eq_true rfl) (Nat.le_of_ble_eq_true rfl) (fun k_5 => by have q9 : ¬ S 9 j = 1 := bJ_1 k_5; rw [bJ_t (bJ_1 k_5)]; simp [sp_drill, bv_nt_r q9, r_1, bv_cl hj (by decide : 8 < 2 ^ 31), r_2, bv_cl hq (by decide : 16 < 2 ^ 31), r_3, bv_cl hq2 (by decide : 16 < 2 ^ 31), c_4, bv_nb, bv_up_at, bv_vw_10, bv_v0, bv_v1, bv_v2, bv_v3, bv_v9, bv_v11, bv_v12, bv_v13, bv_v14, bv_v15])) (fun H locs k_5 hP hS => ?_)
    have r_5 : S 9 j = 1 := Decidable.not_not.mp (bJ_0 k_5)
    have h90 : ¬ S 9 j = 0 := by rw [show S 9 j = 1 from by assumption]; decide
    have eov := bv_I_ov hI hn hj
    refine lv_aload hx hb dX2_drill_35 (lv_at hl 0 rfl) ?_
    refine lv_aload_n hx hb dX2_drill_37 rfl (lv_at hl 1 rfl) ?_
    refine bv_get_f (ci := 2) (C := RX2) (T := TX2) (N := 6) hx hb hts hin2 hown hK hP (bv_c0 G _ _ _) rfl 5 (by decide) wl0 rfl rfl dX2_drill_38 ?_
    refine bv_ci (va_runVN (As := [.int (S 0 0)]) (rest := []) ⟨hx, hb, hml, hown, hts⟩ (c_X0_noticesOn l G (bv_vw S) M z j (S 0 0) (by omega)) ⟨va_cnB (host := "BoxVault") 1 hts gX2_drill_X0_noticesOn_n99 rfl rfl rfl (hE.1 _ (by decide +kernel)) wl1 (by decide +kernel) ⟨Nat.le_of_ble_eq_true rfl, Nat.le_of_ble_eq_true rfl⟩, wl2, wl3⟩ (bv_preV hz hP hK hE hS (ci := 0) (bv_cB G _ _ _ (hj)) rfl rfl) rfl rfl hl.1 rfl (lv_room (Nat.le_of_ble_eq_true rfl)) dX2_drill_41 ⟨Nat.le_of_ble_eq_true rfl, Nat.le_of_ble_eq_true rfl⟩) hS (fun H locs hP hS => ?_)
    refine bv_eqi (y := bv_nt S j) (bv_I_vn hI hn hj (by assumption)) ?_
    refine lv_iconst (v := 3) hx hb dX2_drill_44 (by decide) ?_
    refine lv_icmp_ge (tgt := 58) hx hb dX2_drill_45 (by decide) (fun c_6 => ?_) (fun c_6 => ?_)
    · have c_6 : (3 : Int32) ≤ (bv_nt S j) := c_6
      have c_f7 := bv_nt_le _ _ c_6
      refine lv_aload_n hx hb dX2_drill_58 rfl (lv_at hl 1 rfl) ?_
      refine lv_aload hx hb dX2_drill_59 (lv_at hl 0 rfl) ?_
      refine lv_iload_n hx hb dX2_drill_61 rfl (lv_at hl 3 rfl) ?_
      refine bv_ci (va_runV (As := [.ref (bv_a G (11 + j)), .int (nI q)]) (rest := []) ⟨hx, hb, hml, hown, hts⟩ (c_X2_canWitness l G (bv_vw S) M z j q (by omega) (by omega)) (cwV 2 hts gX2_drill_X2_canWitness rfl rfl rfl (by decide +kernel) ⟨Nat.le_of_ble_eq_true rfl, Nat.le_of_ble_eq_true rfl⟩) (bv_preV hz hP hK hE hS (ci := 2) (bv_c0 G _ _ _) rfl rfl) rfl rfl hl.1 rfl (lv_room (Nat.le_of_ble_eq_true rfl)) dX2_drill_62 ⟨Nat.le_of_ble_eq_true rfl, Nat.le_of_ble_eq_true rfl⟩) hS (fun H locs hP hS => ?_)
      refine bv_eqi (y := bI (S 1 q = 0 ∧ ¬ nI q = S 10 j)) (congrArg (fun t => bI (S 1 q = 0 ∧ ¬ nI q = t)) (bv_vw_h S h90)) ?_
      refine bv_ifeqB (tgt := 78) hx hb dX2_drill_65 (by decide) (fun c_8 => ?_) (fun c_8 => ?_)
      · have c_8 : ¬ (S 1 q = 0 ∧ ¬ nI q = S 10 j) := c_8
        exact bv_throw (cls := "java/lang/IllegalStateException") (text := "a witness is dead or the holder") (ik := 43) (is := 109) (ic := 47) hx hb hlt hts hown (by decide) (by decide +kernel) (by decide +kernel) (by decide) (fun w h => List.mem_cons_of_mem _ (List.mem_append_right _ h)) bv_at47_2 bv_at47_g hE hS (by rw [hml]; exact hl.1) dX2_drill_78 dX2_drill_81 dX2_drill_82 dX2_drill_84 dX2_drill_87 hh (Nat.le_of_ble_eq_true rfl) (Nat.le_of_ble_eq_true rfl) (Nat.le_of_ble_eq_true rfl) (Nat.le_of_ble_eq_true rfl) hlocks (Nat.le_of_ble_eq_true rfl) (Nat.le_of_ble_eq_true rfl) hP (Or.inr ⟨rfl, (by simp [sp_drill, r_1, bv_cl hj (by decide : 8 < 2 ^ 31), r_2, bv_cl hq (by decide : 16 < 2 ^ 31), r_3, bv_cl hq2 (by decide : 16 < 2 ^ 31), c_4, r_5, eov, c_f7, c_8, bv_nb, bv_up_at, bv_vw_10, bv_v0, bv_v1, bv_v2, bv_v3, bv_v9, bv_v11, bv_v12, bv_v13, bv_v14, bv_v15])⟩)
      · have c_8 : (S 1 q = 0 ∧ ¬ nI q = S 10 j) := c_8
        refine lv_aload_n hx hb dX2_drill_68 rfl (lv_at hl 1 rfl) ?_
        refine lv_aload hx hb dX2_drill_69 (lv_at hl 0 rfl) ?_
        refine lv_iload_n hx hb dX2_drill_71 rfl (lv_at hl 4 rfl) ?_
        refine bv_ci (va_runV (As := [.ref (bv_a G (11 + j)), .int (nI q2)]) (rest := []) ⟨hx, hb, hml, hown, hts⟩ (c_X2_canWitness l G (bv_vw S) M z j q2 (by omega) (by omega)) (cwV 2 hts gX2_drill_X2_canWitness rfl rfl rfl (by decide +kernel) ⟨Nat.le_of_ble_eq_true rfl, Nat.le_of_ble_eq_true rfl⟩) (bv_preV hz hP hK hE hS (ci := 2) (bv_c0 G _ _ _) rfl rfl) rfl rfl hl.1 rfl (lv_room (Nat.le_of_ble_eq_true rfl)) dX2_drill_72 ⟨Nat.le_of_ble_eq_true rfl, Nat.le_of_ble_eq_true rfl⟩) hS (fun H locs hP hS => ?_)
        refine bv_eqi (y := bI (S 1 q2 = 0 ∧ ¬ nI q2 = S 10 j)) (congrArg (fun t => bI (S 1 q2 = 0 ∧ ¬ nI q2 = t)) (bv_vw_h S h90)) ?_
        refine bv_ifneB (tgt := 88) hx hb dX2_drill_75 (by decide) (fun c_9 => ?_) (fun c_9 => ?_)
        · have c_9 : (S 1 q2 = 0 ∧ ¬ nI q2 = S 10 j) := c_9
          refine lv_aload_n hx hb dX2_drill_88 rfl (lv_at hl 1 rfl) ?_
          refine bv_get_f (ci := 2) (C := RX2) (T := TX2) (N := 6) hx hb hts hin2 hown hK hP (bv_c0 G _ _ _) rfl 1 (by decide) wl4 rfl rfl dX2_drill_89 ?_
          refine lv_aload_n hx hb dX2_drill_92 rfl (lv_at hl 1 rfl) ?_
          refine bv_get_f (ci := 2) (C := RX2) (T := TX2) (N := 6) hx hb hts hin2 hown hK hP (bv_c0 G _ _ _) rfl 1 (by decide) wl4 rfl rfl dX2_drill_93 ?_
          refine lv_iload_n hx hb dX2_drill_96 rfl (lv_at hl 2 rfl) ?_
          refine bv_ci (va_runVN (As := [.int (nI j)]) (rest := [.ref (bv_a G 2)]) ⟨hx, hb, hml, hown, hts⟩ (c_X1_bindingOn l G (bv_vw S) M z (nI j) cn (hc) (ec)) ⟨va_cnB (host := "BoxVault") 1 hts gX2_drill_X1_bindingOn_n111 rfl rfl rfl (hE.1 _ (by decide +kernel)) wl5 (by decide +kernel) ⟨Nat.le_of_ble_eq_true rfl, Nat.le_of_ble_eq_true rfl⟩, wl6, wl7⟩ (bv_preV hz hP hK hE hS (ci := 1) (bv_c2 G _ _ _) rfl rfl) rfl rfl hl.1 rfl (lv_room (Nat.le_of_ble_eq_true rfl)) dX2_drill_97 ⟨Nat.le_of_ble_eq_true rfl, Nat.le_of_ble_eq_true rfl⟩) hS (fun H locs hP hS => ?_)
          refine bv_eqi (y := bv_bd S (nI j)) ((bv_vw_bn S _ cn).trans (bv_bd_c ec hc)) ?_
          refine bv_ci (va_runVN (As := [.int (bv_bd S (nI j))]) (rest := []) ⟨hx, hb, hml, hown, hts⟩ (c_X1_kindOf l G (bv_vw S) M z (bv_bd S (nI j)) ) ⟨va_cnB (host := "BoxVault") 1 hts gX2_drill_X1_kindOf_n114 rfl rfl rfl (hE.1 _ (by decide +kernel)) wl5 (by decide +kernel) ⟨Nat.le_of_ble_eq_true rfl, Nat.le_of_ble_eq_true rfl⟩, wl8, wl9⟩ (bv_preV hz hP hK hE hS (ci := 1) (bv_c2 G _ _ _) rfl rfl) rfl rfl hl.1 rfl (lv_room (Nat.le_of_ble_eq_true rfl)) dX2_drill_100 ⟨Nat.le_of_ble_eq_true rfl, Nat.le_of_ble_eq_true rfl⟩) hS (fun H locs hP hS => ?_)
          refine bv_eqi (y := bv_ko S j) (bv_I_ko hI j) ?_
          refine lv_if_ne (tgt := 116) hx hb dX2_drill_103 (by decide) (fun c_10 => ?_) (fun c_10 => ?_)
          · have c_10 : ¬ (bv_ko S j) = 0 := c_10
            refine lv_aload hx hb dX2_drill_116 (lv_at hl 0 rfl) ?_
            refine lv_aload_n hx hb dX2_drill_118 rfl (lv_at hl 1 rfl) ?_
            refine bv_get_f (ci := 2) (C := RX2) (T := TX2) (N := 6) hx hb hts hin2 hown hK hP (bv_c0 G _ _ _) rfl 5 (by decide) wl0 rfl rfl dX2_drill_119 ?_
            refine bv_cv (va_runVN (As := [.int (S 0 0)]) (rest := []) ⟨hx, hb, hml, hown, hts⟩ (c_X0_breakOpen l G (bv_vw S) M z j (S 0 0) (by omega)) ⟨va_cnB (host := "BoxVault") 1 hts gX2_drill_X0_breakOpen_n119 rfl rfl rfl (hE.1 _ (by decide +kernel)) wl1 (by decide +kernel) ⟨Nat.le_of_ble_eq_true rfl, Nat.le_of_ble_eq_true rfl⟩, wl10, wl11⟩ (bv_preV hz hP hK hE hS (ci := 0) (bv_cB G _ _ _ (hj)) rfl rfl) rfl rfl hl.1 rfl (lv_room (Nat.le_of_ble_eq_true rfl)) dX2_drill_122 ⟨Nat.le_of_ble_eq_true rfl, Nat.le_of_ble_eq_true rfl⟩) hS (fun H locs hP hS => ?_)
            refine lv_aload hx hb dX2_drill_125 (lv_at hl 0 rfl) ?_
            refine bv_get_n (ref := "BoxVault$Box") (host := "BoxVault") (ci := 0) (C := RX0) (T := TX0) (N := 10) hx hb hts hin0 hown hK hP (bv_cB G _ _ _ (hj)) rfl 3 (by decide) hE (by decide +kernel) rfl rfl dX2_drill_127 ?_
            have hW : bv_H G (bv_vw (sp_drill S (nI j) (nI q) (nI q2)).2.2) M z H := by
              rw [show (sp_drill S (nI j) (nI q) (nI q2)).2.2 = bv_up (bv_up S 12 j (bv_ov (S 0 0) (S 11 j))) 9 j 2 from by simp [sp_drill, r_1, bv_cl hj (by decide : 8 < 2 ^ 31), r_2, bv_cl hq (by decide : 16 < 2 ^ 31), r_3, bv_cl hq2 (by decide : 16 < 2 ^ 31), c_4, r_5, eov, c_f7, c_8, c_9, c_10, bv_nb, bv_up_at, bv_vw_10, bv_v0, bv_v1, bv_v2, bv_v3, bv_v9, bv_v11, bv_v12, bv_v13, bv_v14, bv_v15]]
              rw [bv_up_comm _ (by decide), ← bv_vw_up _ (by decide) (by decide) (by decide), ← bv_vw_st _ h90 (by decide), ← eov]
              exact hP
            exact bv_xiret hx hb hr hlocks hS (Nat.le_of_ble_eq_true rfl) (Nat.le_of_ble_eq_true rfl) dX2_drill_130 (by simp [sp_drill, r_1, bv_cl hj (by decide : 8 < 2 ^ 31), r_2, bv_cl hq (by decide : 16 < 2 ^ 31), r_3, bv_cl hq2 (by decide : 16 < 2 ^ 31), c_4, r_5, eov, c_f7, c_8, c_9, c_10, bv_nb, bv_up_at, bv_vw_10, bv_v0, bv_v1, bv_v2, bv_v3, bv_v9, bv_v11, bv_v12, bv_v13, bv_v14, bv_v15]) (by simp [sp_drill, r_1, bv_cl hj (by decide : 8 < 2 ^ 31), r_2, bv_cl hq (by decide : 16 < 2 ^ 31), r_3, bv_cl hq2 (by decide : 16 < 2 ^ 31), c_4, r_5, eov, c_f7, c_8, c_9, c_10, bv_nb, bv_up_at, bv_vw_10, bv_v0, bv_v1, bv_v2, bv_v3, bv_v9, bv_v11, bv_v12, bv_v13, bv_v14, bv_v15]) hW
          · have c_10 : (bv_ko S j) = 0 := c_10
            exact bv_throw (cls := "java/lang/IllegalStateException") (text := "an order forbids it") (ik := 43) (is := 117) (ic := 47) hx hb hlt hts hown (by decide) (by decide +kernel) (by decide +kernel) (by decide) (fun w h => List.mem_cons_of_mem _ (List.mem_append_right _ h)) bv_at47_2 bv_at47_g hE hS (by rw [hml]; exact hl.1) dX2_drill_106 dX2_drill_109 dX2_drill_110 dX2_drill_112 dX2_drill_115 hh (Nat.le_of_ble_eq_true rfl) (Nat.le_of_ble_eq_true rfl) (Nat.le_of_ble_eq_true rfl) (Nat.le_of_ble_eq_true rfl) hlocks (Nat.le_of_ble_eq_true rfl) (Nat.le_of_ble_eq_true rfl) hP (Or.inr ⟨rfl, (by simp [sp_drill, r_1, bv_cl hj (by decide : 8 < 2 ^ 31), r_2, bv_cl hq (by decide : 16 < 2 ^ 31), r_3, bv_cl hq2 (by decide : 16 < 2 ^ 31), c_4, r_5, eov, c_f7, c_8, c_9, c_10, bv_nb, bv_up_at, bv_vw_10, bv_v0, bv_v1, bv_v2, bv_v3, bv_v9, bv_v11, bv_v12, bv_v13, bv_v14, bv_v15])⟩)
        · have c_9 : ¬ (S 1 q2 = 0 ∧ ¬ nI q2 = S 10 j) := c_9
          exact bv_throw (cls := "java/lang/IllegalStateException") (text := "a witness is dead or the holder") (ik := 43) (is := 109) (ic := 47) hx hb hlt hts hown (by decide) (by decide +kernel) (by decide +kernel) (by decide) (fun w h => List.mem_cons_of_mem _ (List.mem_append_right _ h)) bv_at47_2 bv_at47_g hE hS (by rw [hml]; exact hl.1) dX2_drill_78 dX2_drill_81 dX2_drill_82 dX2_drill_84 dX2_drill_87 hh (Nat.le_of_ble_eq_true rfl) (Nat.le_of_ble_eq_true rfl) (Nat.le_of_ble_eq_true rfl) (Nat.le_of_ble_eq_true rfl) hlocks (Nat.le_of_ble_eq_true rfl) (Nat.le_of_ble_eq_true rfl) hP (Or.inr ⟨rfl, (by simp [sp_drill, r_1, bv_cl hj (by decide : 8 < 2 ^ 31), r_2, bv_cl hq (by decide : 16 < 2 ^ 31), r_3, bv_cl hq2 (by decide : 16 < 2 ^ 31), c_4, r_5, eov, c_f7, c_8, c_9, bv_nb, bv_up_at, bv_vw_10, bv_v0, bv_v1, bv_v2, bv_v3, bv_v9, bv_v11, bv_v12, bv_v13, bv_v14, bv_v15])⟩)
    · have c_6 : ¬ (3 : Int32) ≤ (bv_nt S j) := c_6
      have c_f11 := bv_nt_ge c_6
      exact bv_throw (cls := "java/lang/IllegalStateException") (text := "the box has too few notices") (ik := 43) (is := 103) (ic := 47) hx hb hlt hts hown (by decide) (by decide +kernel) (by decide +kernel) (by decide) (fun w h => List.mem_cons_of_mem _ (List.mem_append_right _ h)) bv_at47_2 bv_at47_g hE hS (by rw [hml]; exact hl.1) dX2_drill_48 dX2_drill_51 dX2_drill_52 dX2_drill_54 dX2_drill_57 hh (Nat.le_of_ble_eq_true rfl) (Nat.le_of_ble_eq_true rfl) (Nat.le_of_ble_eq_true rfl) (Nat.le_of_ble_eq_true rfl) hlocks (Nat.le_of_ble_eq_true rfl) (Nat.le_of_ble_eq_true rfl) hP (Or.inr ⟨rfl, (by simp [sp_drill, r_1, bv_cl hj (by decide : 8 < 2 ^ 31), r_2, bv_cl hq (by decide : 16 < 2 ^ 31), r_3, bv_cl hq2 (by decide : 16 < 2 ^ 31), c_4, r_5, eov, c_f11, bv_nb, bv_up_at, bv_vw_10, bv_v0, bv_v1, bv_v2, bv_v3, bv_v9, bv_v11, bv_v12, bv_v13, bv_v14, bv_v15])⟩)
  · have c_4 : (nI q) = (nI q2) := c_4
    exact bv_throw (cls := "java/lang/IllegalArgumentException") (text := "the witnesses are the same") (ik := 94) (is := 96) (ic := 98) hx hb hlt hts hown (by decide) (by decide +kernel) (by decide +kernel) (by decide) (fun w h => List.mem_cons_of_mem _ (List.mem_append_left _ (List.mem_append_right _ h))) bv_at98_2 bv_at98_g hE hS (by rw [hml]; exact hl.1) dX2_drill_20 dX2_drill_23 dX2_drill_24 dX2_drill_26 dX2_drill_29 hh (Nat.le_of_ble_eq_true rfl) (Nat.le_of_ble_eq_true rfl) (Nat.le_of_ble_eq_true rfl) (Nat.le_of_ble_eq_true rfl) hlocks (Nat.le_of_ble_eq_true rfl) (Nat.le_of_ble_eq_true rfl) hP (Or.inl ⟨rfl, (by simp [sp_drill, r_1, bv_cl hj (by decide : 8 < 2 ^ 31), r_2, bv_cl hq (by decide : 16 < 2 ^ 31), r_3, bv_cl hq2 (by decide : 16 < 2 ^ 31), c_4, bv_nb, bv_up_at, bv_vw_10, bv_v0, bv_v1, bv_v2, bv_v3, bv_v9, bv_v11, bv_v12, bv_v13, bv_v14, bv_v15])⟩)
set_option maxHeartbeats 4000000 in
set_option maxRecDepth 100000 in
theorem c_X2_proxy (l : Launch) (hlt : l.stackTraces = false) (G : bv_G) (S M : bv_X) (z : bv_Z) (n : Nat) (p0 : Int32) (p1 : Int32) (p2 : Int32) (p3 : Int32) (hn : n ≤ 1000) (hI : bv_I n S) : bv_Mx l yX2_proxy wsX2_proxy ({ frames := 8, cells := 6, slots := 36, locals := 125 }) [.ref (bv_a G 0), .int p0, .int p1, .int p2, .int p3] G (bv_vw S) M z ((sp_proxy S p0 p1 p2 p3).1) "java/lang/IllegalArgumentException" ((sp_proxy S p0 p1 p2 p3).2.1) (bv_vw (sp_proxy S p0 p1 p2 p3).2.2) M z := by
  refine vx_ofW (cc := cX2_proxy) (maxL := 6) (ret := (some .int)) (by decide) rfl ?_
  intro p e s m args below meth c s₁ B hml hh hv
  obtain ⟨rfl, hz, hP, hK, hE⟩ := hv
  have hx := B.exec
  have hb := B.bytes
  have hr := B.returns
  have hts := atoms_spec (ws := wsX2_proxy) B.pre
  have hown : s.vm.findClass RX2 = some m.cls := findClass_of_methodNamed B.named
  have hlocks := B.notSynchronized
  have hS : va_S (bv_A G) s.heap s.heap [] := va_S.rf
  have wl0 := hts (.constant RX2 42 (99999)) (by decide +kernel)
  have wl1 := hts (.initialized RX0) (by decide +kernel)
  have wl2 := hts (.instanceMethod yX0_addProxy) (by decide +kernel)
  have wl3 := hts (.selects RX0 yX0_addProxy yX0_addProxy) (by decide +kernel)
  have hin0 : ∀ w ∈ wsX00, w ∈ wsX2_proxy := (fun w h => List.mem_cons_of_mem _ (List.mem_append_left _ (List.mem_append_left _ (List.mem_append_left _ (List.mem_append_right _ h)))))
  have hl := lv_entry ([.ref (bv_a G 0), .int p0, .int p1, .int p2, .int p3]) (n := 6) (Nat.le_of_ble_eq_true rfl)
  rw [lg_entry_eq]
  generalize (lg_sl ([.ref (bv_a G 0), .int p0, .int p1, .int p2, .int p3]) ++ List.replicate (6 - (lg_sl ([.ref (bv_a G 0), .int p0, .int p1, .int p2, .int p3])).length) Slot.unset).toArray = ls at hl ⊢
  have hl : lv_has ls 6 [(0, .ref (bv_a G 0)), (1, .int p0), (2, .int p1), (3, .int p2), (4, .int p3)] := hl
  refine lv_aload_n hx hb dX2_proxy_0 rfl (lv_at hl 0 rfl) ?_
  refine lv_iload_n hx hb dX2_proxy_1 rfl (lv_at hl 1 rfl) ?_
  refine bv_cxr (vx_runV (As := [.int p0]) (rest := []) ⟨hx, hb, hml, hown, hts⟩ (c_X2_boxAt l hlt G (bv_vw S) M z p0 ) (cwV 1 hts gX2_proxy_X2_boxAt rfl rfl rfl (by decide +kernel) ⟨Nat.le_of_ble_eq_true rfl, Nat.le_of_ble_eq_true rfl⟩) (bv_preV hz hP hK hE hS (ci := 2) (bv_c0 G _ _ _) rfl rfl) rfl rfl hl.1 rfl (lv_room (Nat.le_of_ble_eq_true rfl)) dX2_proxy_2 ⟨Nat.le_of_ble_eq_true rfl, Nat.le_of_ble_eq_true rfl⟩) hS (bv_xout hh hlocks (Nat.le_of_ble_eq_true rfl) (Nat.le_of_ble_eq_true rfl) (fun k_1 => by have q9 := bv_rb_f (bI_1 k_1); rw [bI_t (bI_1 k_1)]; simp [sp_proxy, q9, bv_nb, bv_up_at, bv_vw_10, bv_v0, bv_v1, bv_v2, bv_v3, bv_v9, bv_v11, bv_v12, bv_v13, bv_v14, bv_v15])) (fun H locs k_1 hP hS => ?_)
  have r_1 := bv_rb_t (Decidable.not_not.mp (bI_0 k_1))
  obtain ⟨j, hj, ej⟩ := bv_of8 (Decidable.not_not.mp (bI_0 k_1))
  subst ej
  rw [bv_cl hj (by decide)]
  refine lv_astore (lv' := [(5, .ref (bv_a G (11 + j))), (0, .ref (bv_a G 0)), (1, .int (nI j)), (2, .int p1), (3, .int p2), (4, .int p3)]) hx hb dX2_proxy_5 hl (by decide) rfl (fun ls hl => ?_)
  refine lv_iload_n hx hb dX2_proxy_7 rfl (lv_at hl 3 rfl) ?_
  refine bv_cxv (vx_runS (As := [.int p1]) (rest := []) ⟨hx, hb, hml, hown, hts⟩ (c_X2_requirePerson l hlt G (bv_vw S) M z p1 ) (va_cwS 1 hts gX2_proxy_X2_requirePerson rfl rfl rfl (by decide +kernel) ⟨Nat.le_of_ble_eq_true rfl, Nat.le_of_ble_eq_true rfl⟩) (bv_preS hz hP hK hE hS) rfl rfl hl.1 rfl (lv_room (Nat.le_of_ble_eq_true rfl)) dX2_proxy_8 ⟨Nat.le_of_ble_eq_true rfl, Nat.le_of_ble_eq_true rfl⟩) hS (bv_xout hh hlocks (Nat.le_of_ble_eq_true rfl) (Nat.le_of_ble_eq_true rfl) (fun k_2 => by have q9 := bv_rb_f (bI_1 k_2); rw [bI_t (bI_1 k_2)]; simp [sp_proxy, q9, r_1, bv_cl hj (by decide : 8 < 2 ^ 31), bv_nb, bv_up_at, bv_vw_10, bv_v0, bv_v1, bv_v2, bv_v3, bv_v9, bv_v11, bv_v12, bv_v13, bv_v14, bv_v15])) (fun H locs k_2 hP hS => ?_)
  have r_2 := bv_rb_t (Decidable.not_not.mp (bI_0 k_2))
  obtain ⟨q, hq, ej⟩ := bv_of16 (Decidable.not_not.mp (bI_0 k_2))
  subst ej
  refine lv_iload_n hx hb dX2_proxy_11 rfl (lv_at hl 4 rfl) ?_
  refine lv_iconst (v := 0) hx hb dX2_proxy_12 (by decide) ?_
  refine lv_ldc hx hb hown wl0 dX2_proxy_13 ?_
  refine bv_cxv (vx_runS (As := [.int p2, .int 0, .int 99999]) (rest := []) ⟨hx, hb, hml, hown, hts⟩ (c_X2_requireRange l hlt G (bv_vw S) M z p2 0 99999 ) (va_cwS 3 hts gX2_proxy_X2_requireRange rfl rfl rfl (by decide +kernel) ⟨Nat.le_of_ble_eq_true rfl, Nat.le_of_ble_eq_true rfl⟩) (bv_preS hz hP hK hE hS) rfl rfl hl.1 rfl (lv_room (Nat.le_of_ble_eq_true rfl)) dX2_proxy_15 ⟨Nat.le_of_ble_eq_true rfl, Nat.le_of_ble_eq_true rfl⟩) hS (bv_xout hh hlocks (Nat.le_of_ble_eq_true rfl) (Nat.le_of_ble_eq_true rfl) (fun k_3 => by have q9 := bv_rb_f (bI_1 k_3); rw [bI_t (bI_1 k_3)]; simp [sp_proxy, q9, r_1, bv_cl hj (by decide : 8 < 2 ^ 31), r_2, bv_cl hq (by decide : 16 < 2 ^ 31), bv_nb, bv_up_at, bv_vw_10, bv_v0, bv_v1, bv_v2, bv_v3, bv_v9, bv_v11, bv_v12, bv_v13, bv_v14, bv_v15])) (fun H locs k_3 hP hS => ?_)
  have r_3 := bv_rb_t (Decidable.not_not.mp (bI_0 k_3))
  refine lv_iload hx hb dX2_proxy_18 (lv_at hl 5 rfl) ?_
  refine lv_iload_n hx hb dX2_proxy_20 rfl (lv_at hl 4 rfl) ?_
  refine lv_ldc hx hb hown wl0 dX2_proxy_21 ?_
  refine bv_cxv (vx_runS (As := [.int p3, .int p2, .int 99999]) (rest := []) ⟨hx, hb, hml, hown, hts⟩ (c_X2_requireRange l hlt G (bv_vw S) M z p3 p2 99999 ) (va_cwS 3 hts gX2_proxy_X2_requireRange rfl rfl rfl (by decide +kernel) ⟨Nat.le_of_ble_eq_true rfl, Nat.le_of_ble_eq_true rfl⟩) (bv_preS hz hP hK hE hS) rfl rfl hl.1 rfl (lv_room (Nat.le_of_ble_eq_true rfl)) dX2_proxy_23 ⟨Nat.le_of_ble_eq_true rfl, Nat.le_of_ble_eq_true rfl⟩) hS (bv_xout hh hlocks (Nat.le_of_ble_eq_true rfl) (Nat.le_of_ble_eq_true rfl) (fun k_4 => by have q9 := bv_rb_f (bI_1 k_4); rw [bI_t (bI_1 k_4)]; simp [sp_proxy, q9, r_1, bv_cl hj (by decide : 8 < 2 ^ 31), r_2, bv_cl hq (by decide : 16 < 2 ^ 31), r_3, bv_nb, bv_up_at, bv_vw_10, bv_v0, bv_v1, bv_v2, bv_v3, bv_v9, bv_v11, bv_v12, bv_v13, bv_v14, bv_v15])) (fun H locs k_4 hP hS => ?_)
  have r_4 := bv_rb_t (Decidable.not_not.mp (bI_0 k_4))
  refine lv_aload hx hb dX2_proxy_26 (lv_at hl 0 rfl) ?_
  refine bv_cxv (vx_runS (As := [.ref (bv_a G (11 + j))]) (rest := []) ⟨hx, hb, hml, hown, hts⟩ (c_X2_requireRented l hlt G (bv_vw S) M z j (by omega)) (va_cwS 1 hts gX2_proxy_X2_requireRented rfl rfl rfl (by decide +kernel) ⟨Nat.le_of_ble_eq_true rfl, Nat.le_of_ble_eq_true rfl⟩) (bv_preS hz hP hK hE hS) rfl rfl hl.1 rfl (lv_room (Nat.le_of_ble_eq_true rfl)) dX2_proxy_28 ⟨Nat.le_of_ble_eq_true rfl, Nat.le_of_ble_eq_true rfl⟩) hS (bv_xout hh hlocks (Nat.le_of_ble_eq_true rfl) (Nat.le_of_ble_eq_true rfl) (fun k_5 => by have q9 : ¬ (S 9 j = 1) := bJ_1 k_5; rw [bJ_t (bJ_1 k_5)]; simp [sp_proxy, q9, r_1, bv_cl hj (by decide : 8 < 2 ^ 31), r_2, bv_cl hq (by decide : 16 < 2 ^ 31), r_3, r_4, bv_nb, bv_up_at, bv_vw_10, bv_v0, bv_v1, bv_v2, bv_v3, bv_v9, bv_v11, bv_v12, bv_v13, bv_v14, bv_v15])) (fun H locs k_5 hP hS => ?_)
  have r_5 : S 9 j = 1 := Decidable.not_not.mp (bJ_0 k_5)
  have h90 : ¬ S 9 j = 0 := by rw [show S 9 j = 1 from by assumption]; decide
  obtain ⟨d0, hd0, ed, ed2⟩ := bv_I_hd hI hj
  obtain ⟨c5, hc5, ec5⟩ := bv_I_px hI hj
  have ec5n : (S 15 j).toNatClampNeg = c5 := by rw [ec5]; exact nI_clamp (by omega)
  refine lv_aload_n hx hb dX2_proxy_31 rfl (lv_at hl 1 rfl) ?_
  refine lv_aload hx hb dX2_proxy_32 (lv_at hl 0 rfl) ?_
  refine bv_get_n (ref := "BoxVault$Box") (host := "BoxVault") (ci := 0) (C := RX0) (T := TX0) (N := 10) hx hb hts hin0 hown hK hP (bv_cB G _ _ _ (hj)) rfl 1 (by decide) hE (by decide +kernel) rfl rfl dX2_proxy_34 ?_
  refine bv_eqi (y := nI d0) ((bv_vw_h S (h90)).trans ed) ?_
  refine bv_ci (va_runV (As := [.int (nI d0)]) (rest := []) ⟨hx, hb, hml, hown, hts⟩ (c_X2_isAlive l G (bv_vw S) M z d0 (by omega)) (cwV 1 hts gX2_proxy_X2_isAlive rfl rfl rfl (by decide +kernel) ⟨Nat.le_of_ble_eq_true rfl, Nat.le_of_ble_eq_true rfl⟩) (bv_preV hz hP hK hE hS (ci := 2) (bv_c0 G _ _ _) rfl rfl) rfl rfl hl.1 rfl (lv_room (Nat.le_of_ble_eq_true rfl)) dX2_proxy_37 ⟨Nat.le_of_ble_eq_true rfl, Nat.le_of_ble_eq_true rfl⟩) hS (fun H locs hP hS => ?_)
  refine bv_ifneB (tgt := 53) hx hb dX2_proxy_40 (by decide) (fun c_6 => ?_) (fun c_6 => ?_)
  · have c_6 : (S 1 d0 = 0) := c_6
    refine lv_iload_n hx hb dX2_proxy_53 rfl (lv_at hl 3 rfl) ?_
    refine lv_aload hx hb dX2_proxy_54 (lv_at hl 0 rfl) ?_
    refine bv_get_n (ref := "BoxVault$Box") (host := "BoxVault") (ci := 0) (C := RX0) (T := TX0) (N := 10) hx hb hts hin0 hown hK hP (bv_cB G _ _ _ (hj)) rfl 1 (by decide) hE (by decide +kernel) rfl rfl dX2_proxy_56 ?_
    refine bv_eqi (y := S 10 j) (bv_vw_h S h90) ?_
    refine lv_icmp_ne (tgt := 72) hx hb dX2_proxy_59 (by decide) (fun c_7 => ?_) (fun c_7 => ?_)
    · have c_7 : ¬ (nI q) = (S 10 j) := c_7
      have c_f8 := eq_false c_7
      refine lv_aload hx hb dX2_proxy_72 (lv_at hl 0 rfl) ?_
      refine bv_get_n (ref := "BoxVault$Box") (host := "BoxVault") (ci := 0) (C := RX0) (T := TX0) (N := 10) hx hb hts hin0 hown hK hP (bv_cB G _ _ _ (hj)) rfl 6 (by decide) hE (by decide +kernel) rfl rfl dX2_proxy_74 ?_
      refine lv_iconst (v := 5) hx hb dX2_proxy_77 (by decide) ?_
      refine lv_icmp_lt (tgt := 91) hx hb dX2_proxy_78 (by decide) (fun c_9 => ?_) (fun c_9 => ?_)
      · have c_9 : (S 15 j) < 5 := c_9
        have hlt5 : c5 < 5 := bv_lt5 (b := 5) ec5 (by omega) (by decide) (by assumption)
        have c_f10 : ¬ S 15 j = 5 := bv_ne_lt (b := 5) ec5 hlt5 (by decide)
        refine lv_aload hx hb dX2_proxy_91 (lv_at hl 0 rfl) ?_
        refine lv_iload_n hx hb dX2_proxy_93 rfl (lv_at hl 3 rfl) ?_
        refine lv_iload_n hx hb dX2_proxy_94 rfl (lv_at hl 4 rfl) ?_
        refine lv_iload hx hb dX2_proxy_95 (lv_at hl 5 rfl) ?_
        refine bv_cv (va_runVN (As := [.int (nI q), .int p2, .int p3]) (rest := []) ⟨hx, hb, hml, hown, hts⟩ (c_X0_addProxy l G (bv_vw S) M z j (nI q) p2 p3 c5 (by omega) (hlt5) (ec5)) ⟨va_cnB (host := "BoxVault") 3 hts gX2_proxy_X0_addProxy_n148 rfl rfl rfl (hE.1 _ (by decide +kernel)) wl1 (by decide +kernel) ⟨Nat.le_of_ble_eq_true rfl, Nat.le_of_ble_eq_true rfl⟩, wl2, wl3⟩ (bv_preV hz hP hK hE hS (ci := 0) (bv_cB G _ _ _ (hj)) rfl rfl) rfl rfl hl.1 rfl (lv_room (Nat.le_of_ble_eq_true rfl)) dX2_proxy_97 ⟨Nat.le_of_ble_eq_true rfl, Nat.le_of_ble_eq_true rfl⟩) hS (fun H locs hP hS => ?_)
        refine lv_aload hx hb dX2_proxy_100 (lv_at hl 0 rfl) ?_
        refine bv_get_n (ref := "BoxVault$Box") (host := "BoxVault") (ci := 0) (C := RX0) (T := TX0) (N := 10) hx hb hts hin0 hown hK hP (bv_cB G _ _ _ (hj)) rfl 6 (by decide) hE (by decide +kernel) rfl rfl dX2_proxy_102 ?_
        have hW : bv_H G (bv_vw (sp_proxy S (nI j) (nI q) p2 p3).2.2) M z H := by
          rw [show (sp_proxy S (nI j) (nI q) p2 p3).2.2 = bv_up (bv_up (bv_up (bv_up S 16 (5 * j + c5) (nI q)) 17 (5 * j + c5) p2) 18 (5 * j + c5) p3) 15 j (S 15 j + 1) from by simp [sp_proxy, r_1, bv_cl hj (by decide : 8 < 2 ^ 31), r_2, bv_cl hq (by decide : 16 < 2 ^ 31), r_3, r_4, r_5, ed2, ec5n, c_6, c_f8, c_f10, bv_nb, bv_up_at, bv_vw_10, bv_v0, bv_v1, bv_v2, bv_v3, bv_v9, bv_v11, bv_v12, bv_v13, bv_v14, bv_v15]]
          rw [← bv_vw_up _ (by decide) (by decide) (by decide), ← bv_vw_u32 _ hj hlt5, ← bv_vw_u24 _ hj hlt5, ← bv_vw_u16 _ hj hlt5]
          exact hP
        exact bv_xiret hx hb hr hlocks hS (Nat.le_of_ble_eq_true rfl) (Nat.le_of_ble_eq_true rfl) dX2_proxy_105 (by simp [sp_proxy, r_1, bv_cl hj (by decide : 8 < 2 ^ 31), r_2, bv_cl hq (by decide : 16 < 2 ^ 31), r_3, r_4, r_5, ed2, ec5n, c_6, c_f8, c_f10, bv_nb, bv_up_at, bv_vw_10, bv_v0, bv_v1, bv_v2, bv_v3, bv_v9, bv_v11, bv_v12, bv_v13, bv_v14, bv_v15]) (by simp [sp_proxy, r_1, bv_cl hj (by decide : 8 < 2 ^ 31), r_2, bv_cl hq (by decide : 16 < 2 ^ 31), r_3, r_4, r_5, ed2, ec5n, c_6, c_f8, c_f10, bv_nb, bv_up_at, bv_vw_10, bv_v0, bv_v1, bv_v2, bv_v3, bv_v9, bv_v11, bv_v12, bv_v13, bv_v14, bv_v15]) hW
      · have c_9 : ¬ (S 15 j) < 5 := c_9
        have c_f11 : S 15 j = 5 := bv_eq_ge (b := 5) ec5 hc5 (by decide) c_9
        exact bv_throw (cls := "java/lang/IllegalStateException") (text := "there are too many proxies") (ik := 43) (is := 146) (ic := 47) hx hb hlt hts hown (by decide) (by decide +kernel) (by decide +kernel) (by decide) (fun w h => List.mem_cons_of_mem _ (List.mem_append_left _ (List.mem_append_right _ h))) bv_at47_2 bv_at47_g hE hS (by rw [hml]; exact hl.1) dX2_proxy_81 dX2_proxy_84 dX2_proxy_85 dX2_proxy_87 dX2_proxy_90 hh (Nat.le_of_ble_eq_true rfl) (Nat.le_of_ble_eq_true rfl) (Nat.le_of_ble_eq_true rfl) (Nat.le_of_ble_eq_true rfl) hlocks (Nat.le_of_ble_eq_true rfl) (Nat.le_of_ble_eq_true rfl) hP (Or.inr ⟨rfl, (by simp [sp_proxy, r_1, bv_cl hj (by decide : 8 < 2 ^ 31), r_2, bv_cl hq (by decide : 16 < 2 ^ 31), r_3, r_4, r_5, ed2, ec5n, c_6, c_f8, c_f11, bv_nb, bv_up_at, bv_vw_10, bv_v0, bv_v1, bv_v2, bv_v3, bv_v9, bv_v11, bv_v12, bv_v13, bv_v14, bv_v15])⟩)
    · have c_7 : (nI q) = (S 10 j) := c_7
      have c_f12 := eq_true c_7
      exact bv_throw (cls := "java/lang/IllegalStateException") (text := "the person is the holder") (ik := 43) (is := 141) (ic := 47) hx hb hlt hts hown (by decide) (by decide +kernel) (by decide +kernel) (by decide) (fun w h => List.mem_cons_of_mem _ (List.mem_append_left _ (List.mem_append_right _ h))) bv_at47_2 bv_at47_g hE hS (by rw [hml]; exact hl.1) dX2_proxy_62 dX2_proxy_65 dX2_proxy_66 dX2_proxy_68 dX2_proxy_71 hh (Nat.le_of_ble_eq_true rfl) (Nat.le_of_ble_eq_true rfl) (Nat.le_of_ble_eq_true rfl) (Nat.le_of_ble_eq_true rfl) hlocks (Nat.le_of_ble_eq_true rfl) (Nat.le_of_ble_eq_true rfl) hP (Or.inr ⟨rfl, (by simp [sp_proxy, r_1, bv_cl hj (by decide : 8 < 2 ^ 31), r_2, bv_cl hq (by decide : 16 < 2 ^ 31), r_3, r_4, r_5, ed2, ec5n, c_6, c_f12, bv_nb, bv_up_at, bv_vw_10, bv_v0, bv_v1, bv_v2, bv_v3, bv_v9, bv_v11, bv_v12, bv_v13, bv_v14, bv_v15])⟩)
  · have c_6 : ¬ (S 1 d0 = 0) := c_6
    exact bv_throw (cls := "java/lang/IllegalStateException") (text := "the holder is dead") (ik := 43) (is := 139) (ic := 47) hx hb hlt hts hown (by decide) (by decide +kernel) (by decide +kernel) (by decide) (fun w h => List.mem_cons_of_mem _ (List.mem_append_left _ (List.mem_append_right _ h))) bv_at47_2 bv_at47_g hE hS (by rw [hml]; exact hl.1) dX2_proxy_43 dX2_proxy_46 dX2_proxy_47 dX2_proxy_49 dX2_proxy_52 hh (Nat.le_of_ble_eq_true rfl) (Nat.le_of_ble_eq_true rfl) (Nat.le_of_ble_eq_true rfl) (Nat.le_of_ble_eq_true rfl) hlocks (Nat.le_of_ble_eq_true rfl) (Nat.le_of_ble_eq_true rfl) hP (Or.inr ⟨rfl, (by simp [sp_proxy, r_1, bv_cl hj (by decide : 8 < 2 ^ 31), r_2, bv_cl hq (by decide : 16 < 2 ^ 31), r_3, r_4, r_5, ed2, ec5n, c_6, bv_nb, bv_up_at, bv_vw_10, bv_v0, bv_v1, bv_v2, bv_v3, bv_v9, bv_v11, bv_v12, bv_v13, bv_v14, bv_v15])⟩)
set_option maxHeartbeats 4000000 in
set_option maxRecDepth 100000 in
theorem c_X2_heir (l : Launch) (hlt : l.stackTraces = false) (G : bv_G) (S M : bv_X) (z : bv_Z) (n : Nat) (p0 : Int32) (p1 : Int32) (p2 : Int32) (hn : n ≤ 1000) (hI : bv_I n S) : bv_Mx l yX2_heir wsX2_heir ({ frames := 8, cells := 3, slots := 18, locals := 124 }) [.ref (bv_a G 0), .int p0, .int p1, .int p2] G (bv_vw S) M z ((sp_heir S p0 p1 p2).1) "java/lang/IllegalArgumentException" ((sp_heir S p0 p1 p2).2.1) (bv_vw (sp_heir S p0 p1 p2).2.2) M z := by
  refine vx_ofW (cc := cX2_heir) (maxL := 6) (ret := (some .boolean)) (by decide) rfl ?_
  intro p e s m args below meth c s₁ B hml hh hv
  obtain ⟨rfl, hz, hP, hK, hE⟩ := hv
  have hx := B.exec
  have hb := B.bytes
  have hr := B.returns
  have hts := atoms_spec (ws := wsX2_heir) B.pre
  have hown : s.vm.findClass RX2 = some m.cls := findClass_of_methodNamed B.named
  have hlocks := B.notSynchronized
  have hS : va_S (bv_A G) s.heap s.heap [] := va_S.rf
  have wl0 := hts (.fieldLink RX2 26 "BoxVault" "heirs" "[I") (by decide +kernel)
  have hin2 : ∀ w ∈ wsX20, w ∈ wsX2_heir := (fun w h => List.mem_cons_of_mem _ (List.mem_append_left _ (List.mem_append_right _ h)))
  have hl := lv_entry ([.ref (bv_a G 0), .int p0, .int p1, .int p2]) (n := 6) (Nat.le_of_ble_eq_true rfl)
  rw [lg_entry_eq]
  generalize (lg_sl ([.ref (bv_a G 0), .int p0, .int p1, .int p2]) ++ List.replicate (6 - (lg_sl ([.ref (bv_a G 0), .int p0, .int p1, .int p2])).length) Slot.unset).toArray = ls at hl ⊢
  have hl : lv_has ls 6 [(0, .ref (bv_a G 0)), (1, .int p0), (2, .int p1), (3, .int p2)] := hl
  refine lv_iload_n hx hb dX2_heir_0 rfl (lv_at hl 1 rfl) ?_
  refine bv_cxv (vx_runS (As := [.int p0]) (rest := []) ⟨hx, hb, hml, hown, hts⟩ (c_X2_requirePerson l hlt G (bv_vw S) M z p0 ) (va_cwS 1 hts gX2_heir_X2_requirePerson rfl rfl rfl (by decide +kernel) ⟨Nat.le_of_ble_eq_true rfl, Nat.le_of_ble_eq_true rfl⟩) (bv_preS hz hP hK hE hS) rfl rfl hl.1 rfl (lv_room (Nat.le_of_ble_eq_true rfl)) dX2_heir_1 ⟨Nat.le_of_ble_eq_true rfl, Nat.le_of_ble_eq_true rfl⟩) hS (bv_xout hh hlocks (Nat.le_of_ble_eq_true rfl) (Nat.le_of_ble_eq_true rfl) (fun k_1 => by have q9 := bv_rb_f (bI_1 k_1); rw [bI_t (bI_1 k_1)]; simp [sp_heir, q9, bv_nb, bv_up_at, bv_vw_10, bv_v0, bv_v1, bv_v2, bv_v3, bv_v9, bv_v11, bv_v12, bv_v13, bv_v14, bv_v15])) (fun H locs k_1 hP hS => ?_)
  have r_1 := bv_rb_t (Decidable.not_not.mp (bI_0 k_1))
  obtain ⟨q0, hq0, ej⟩ := bv_of16 (Decidable.not_not.mp (bI_0 k_1))
  subst ej
  refine lv_iload_n hx hb dX2_heir_4 rfl (lv_at hl 2 rfl) ?_
  refine bv_cxv (vx_runS (As := [.int p1]) (rest := []) ⟨hx, hb, hml, hown, hts⟩ (c_X2_requirePerson l hlt G (bv_vw S) M z p1 ) (va_cwS 1 hts gX2_heir_X2_requirePerson rfl rfl rfl (by decide +kernel) ⟨Nat.le_of_ble_eq_true rfl, Nat.le_of_ble_eq_true rfl⟩) (bv_preS hz hP hK hE hS) rfl rfl hl.1 rfl (lv_room (Nat.le_of_ble_eq_true rfl)) dX2_heir_5 ⟨Nat.le_of_ble_eq_true rfl, Nat.le_of_ble_eq_true rfl⟩) hS (bv_xout hh hlocks (Nat.le_of_ble_eq_true rfl) (Nat.le_of_ble_eq_true rfl) (fun k_2 => by have q9 := bv_rb_f (bI_1 k_2); rw [bI_t (bI_1 k_2)]; simp [sp_heir, q9, r_1, bv_cl hq0 (by decide : 16 < 2 ^ 31), bv_nb, bv_up_at, bv_vw_10, bv_v0, bv_v1, bv_v2, bv_v3, bv_v9, bv_v11, bv_v12, bv_v13, bv_v14, bv_v15])) (fun H locs k_2 hP hS => ?_)
  have r_2 := bv_rb_t (Decidable.not_not.mp (bI_0 k_2))
  obtain ⟨q, hq, ej⟩ := bv_of16 (Decidable.not_not.mp (bI_0 k_2))
  subst ej
  refine lv_iload_n hx hb dX2_heir_8 rfl (lv_at hl 1 rfl) ?_
  refine lv_iload_n hx hb dX2_heir_9 rfl (lv_at hl 2 rfl) ?_
  refine lv_icmp_ne (tgt := 23) hx hb dX2_heir_10 (by decide) (fun c_3 => ?_) (fun c_3 => ?_)
  · have c_3 : ¬ (nI q0) = (nI q) := c_3
    refine lv_aload_n hx hb dX2_heir_23 rfl (lv_at hl 0 rfl) ?_
    refine lv_iload_n hx hb dX2_heir_24 rfl (lv_at hl 2 rfl) ?_
    refine lv_iload_n hx hb dX2_heir_25 rfl (lv_at hl 1 rfl) ?_
    refine bv_ci (va_runV (As := [.int (nI q), .int (nI q0)]) (rest := []) ⟨hx, hb, hml, hown, hts⟩ (c_X2_isHeir l G (bv_vw S) M z q q0 (by omega) (by omega)) (cwV 2 hts gX2_heir_X2_isHeir rfl rfl rfl (by decide +kernel) ⟨Nat.le_of_ble_eq_true rfl, Nat.le_of_ble_eq_true rfl⟩) (bv_preV hz hP hK hE hS (ci := 2) (bv_c0 G _ _ _) rfl rfl) rfl rfl hl.1 rfl (lv_room (Nat.le_of_ble_eq_true rfl)) dX2_heir_26 ⟨Nat.le_of_ble_eq_true rfl, Nat.le_of_ble_eq_true rfl⟩) hS (fun H locs hP hS => ?_)
    refine lv_istore (lv' := [(4, .int (bI (bv_hr S q q0))), (0, .ref (bv_a G 0)), (1, .int (nI q0)), (2, .int (nI q)), (3, .int p2)]) hx hb dX2_heir_29 hl (by decide) rfl (fun ls hl => ?_)
    refine lv_iconst (v := 1) hx hb dX2_heir_31 (by decide) ?_
    refine lv_iload_n hx hb dX2_heir_32 rfl (lv_at hl 3 rfl) ?_
    refine lv_ishl hx hb dX2_heir_33 ?_
    refine lv_istore (lv' := [(5, .int (1 <<< ((nI q) &&& 31))), (4, .int (bI (bv_hr S q q0))), (0, .ref (bv_a G 0)), (1, .int (nI q0)), (2, .int (nI q)), (3, .int p2)]) hx hb dX2_heir_34 hl (by decide) rfl (fun ls hl => ?_)
    refine lv_aload_n hx hb dX2_heir_36 rfl (lv_at hl 2 rfl) ?_
    refine bv_get_f (ci := 2) (C := RX2) (T := TX2) (N := 6) hx hb hts hin2 hown hK hP (bv_c0 G _ _ _) rfl 3 (by decide) wl0 rfl rfl dX2_heir_37 ?_
    refine lv_iload_n hx hb dX2_heir_40 rfl (lv_at hl 3 rfl) ?_
    refine lv_iload_n hx hb dX2_heir_41 rfl (lv_at hl 5 rfl) ?_
    refine lv_if_eq (tgt := 57) hx hb dX2_heir_42 (by decide) (fun c_4 => ?_) (fun c_4 => ?_)
    · have c_4 : p2 = 0 := c_4
      refine lv_aload_n hx hb dX2_heir_57 rfl (lv_at hl 2 rfl) ?_
      refine bv_get_f (ci := 2) (C := RX2) (T := TX2) (N := 6) hx hb hts hin2 hown hK hP (bv_c0 G _ _ _) rfl 3 (by decide) wl0 rfl rfl dX2_heir_58 ?_
      refine lv_iload_n hx hb dX2_heir_61 rfl (lv_at hl 3 rfl) ?_
      refine bv_iald hx hb hK hP 4 (bv_c4 G _ _ _) q0 (rfl) (hq0) (by decide) dX2_heir_62 ?_
      refine lv_iload hx hb dX2_heir_63 (lv_at hl 0 rfl) ?_
      refine lv_iconst (v := (-1)) hx hb dX2_heir_65 (by decide) ?_
      refine lv_ixor hx hb dX2_heir_66 ?_
      refine lv_iand hx hb dX2_heir_67 ?_
      refine bv_iast hx hb hK hP hS 4 (bv_c4 G _ _ _ ) q0 (rfl) (hq0) (by decide) (bv_s4 G _ _ _ _ _) dX2_heir_68 (fun H locs hP hS => ?_)
      refine lv_iload hx hb dX2_heir_69 (lv_at hl 1 rfl) ?_
      have hW : bv_H G (bv_vw (sp_heir S (nI q0) (nI q) p2).2.2) M z H := by
        rw [show (sp_heir S (nI q0) (nI q) p2).2.2 = bv_up S 2 q0 ((S 2 q0) &&& ((1 <<< ((nI q) &&& 31)) ^^^ (-1))) from by simp [sp_heir, r_1, bv_cl hq0 (by decide : 16 < 2 ^ 31), r_2, bv_cl hq (by decide : 16 < 2 ^ 31), c_3, c_4, bv_nb, bv_up_at, bv_vw_10, bv_v0, bv_v1, bv_v2, bv_v3, bv_v9, bv_v11, bv_v12, bv_v13, bv_v14, bv_v15]]
        rw [← bv_vw_up _ (by decide) (by decide) (by decide)]
        exact hP
      exact bv_xzret hx hb hr hlocks (bI_nz) hS (Nat.le_of_ble_eq_true rfl) (Nat.le_of_ble_eq_true rfl) dX2_heir_71 (by simp [sp_heir, r_1, bv_cl hq0 (by decide : 16 < 2 ^ 31), r_2, bv_cl hq (by decide : 16 < 2 ^ 31), c_3, c_4, bv_nb, bv_up_at, bv_vw_10, bv_v0, bv_v1, bv_v2, bv_v3, bv_v9, bv_v11, bv_v12, bv_v13, bv_v14, bv_v15]) (by show bI (bv_hr S q q0) = _; simp [sp_heir, r_1, bv_cl hq0 (by decide : 16 < 2 ^ 31), r_2, bv_cl hq (by decide : 16 < 2 ^ 31), c_3, c_4, bv_nb, bv_up_at, bv_vw_10, bv_v0, bv_v1, bv_v2, bv_v3, bv_v9, bv_v11, bv_v12, bv_v13, bv_v14, bv_v15]) hW
    · have c_4 : ¬ p2 = 0 := c_4
      refine lv_aload_n hx hb dX2_heir_45 rfl (lv_at hl 2 rfl) ?_
      refine bv_get_f (ci := 2) (C := RX2) (T := TX2) (N := 6) hx hb hts hin2 hown hK hP (bv_c0 G _ _ _) rfl 3 (by decide) wl0 rfl rfl dX2_heir_46 ?_
      refine lv_iload_n hx hb dX2_heir_49 rfl (lv_at hl 3 rfl) ?_
      refine bv_iald hx hb hK hP 4 (bv_c4 G _ _ _) q0 (rfl) (hq0) (by decide) dX2_heir_50 ?_
      refine lv_iload hx hb dX2_heir_51 (lv_at hl 0 rfl) ?_
      refine lv_ior hx hb dX2_heir_53 ?_
      refine lv_goto (tgt := 68) hx hb dX2_heir_54 (by decide) ?_
      refine bv_iast hx hb hK hP hS 4 (bv_c4 G _ _ _ ) q0 (rfl) (hq0) (by decide) (bv_s4 G _ _ _ _ _) dX2_heir_68 (fun H locs hP hS => ?_)
      refine lv_iload hx hb dX2_heir_69 (lv_at hl 1 rfl) ?_
      have hW : bv_H G (bv_vw (sp_heir S (nI q0) (nI q) p2).2.2) M z H := by
        rw [show (sp_heir S (nI q0) (nI q) p2).2.2 = bv_up S 2 q0 ((S 2 q0) ||| (1 <<< ((nI q) &&& 31))) from by simp [sp_heir, r_1, bv_cl hq0 (by decide : 16 < 2 ^ 31), r_2, bv_cl hq (by decide : 16 < 2 ^ 31), c_3, c_4, bv_nb, bv_up_at, bv_vw_10, bv_v0, bv_v1, bv_v2, bv_v3, bv_v9, bv_v11, bv_v12, bv_v13, bv_v14, bv_v15]]
        rw [← bv_vw_up _ (by decide) (by decide) (by decide)]
        exact hP
      exact bv_xzret hx hb hr hlocks (bI_nz) hS (Nat.le_of_ble_eq_true rfl) (Nat.le_of_ble_eq_true rfl) dX2_heir_71 (by simp [sp_heir, r_1, bv_cl hq0 (by decide : 16 < 2 ^ 31), r_2, bv_cl hq (by decide : 16 < 2 ^ 31), c_3, c_4, bv_nb, bv_up_at, bv_vw_10, bv_v0, bv_v1, bv_v2, bv_v3, bv_v9, bv_v11, bv_v12, bv_v13, bv_v14, bv_v15]) (by show bI (bv_hr S q q0) = _; simp [sp_heir, r_1, bv_cl hq0 (by decide : 16 < 2 ^ 31), r_2, bv_cl hq (by decide : 16 < 2 ^ 31), c_3, c_4, bv_nb, bv_up_at, bv_vw_10, bv_v0, bv_v1, bv_v2, bv_v3, bv_v9, bv_v11, bv_v12, bv_v13, bv_v14, bv_v15]) hW
  · have c_3 : (nI q0) = (nI q) := c_3
    exact bv_throw (cls := "java/lang/IllegalArgumentException") (text := "nobody is their own heir") (ik := 94) (is := 151) (ic := 98) hx hb hlt hts hown (by decide) (by decide +kernel) (by decide +kernel) (by decide) (fun w h => List.mem_cons_of_mem _ (List.mem_append_right _ h)) bv_at98_2 bv_at98_g hE hS (by rw [hml]; exact hl.1) dX2_heir_13 dX2_heir_16 dX2_heir_17 dX2_heir_19 dX2_heir_22 hh (Nat.le_of_ble_eq_true rfl) (Nat.le_of_ble_eq_true rfl) (Nat.le_of_ble_eq_true rfl) (Nat.le_of_ble_eq_true rfl) hlocks (Nat.le_of_ble_eq_true rfl) (Nat.le_of_ble_eq_true rfl) hP (Or.inl ⟨rfl, (by simp [sp_heir, r_1, bv_cl hq0 (by decide : 16 < 2 ^ 31), r_2, bv_cl hq (by decide : 16 < 2 ^ 31), c_3, bv_nb, bv_up_at, bv_vw_10, bv_v0, bv_v1, bv_v2, bv_v3, bv_v9, bv_v11, bv_v12, bv_v13, bv_v14, bv_v15])⟩)
set_option maxHeartbeats 4000000 in
set_option maxRecDepth 100000 in
theorem c_X2_die (l : Launch) (hlt : l.stackTraces = false) (G : bv_G) (S M : bv_X) (z : bv_Z) (n : Nat) (p0 : Int32) (hn : n ≤ 1000) (hI : bv_I n S) : bv_Mx l yX2_die wsX2_die ({ frames := 8, cells := 2, slots := 12, locals := 124 }) [.ref (bv_a G 0), .int p0] G (bv_vw S) M z ((sp_die S p0).1) "java/lang/IllegalArgumentException" ((sp_die S p0).2.1) (bv_vw (sp_die S p0).2.2) M z := by
  refine vx_ofW (cc := cX2_die) (maxL := 4) (ret := (some .int)) (by decide) rfl ?_
  intro p e s m args below meth c s₁ B hml hh hv
  obtain ⟨rfl, hz, hP, hK, hE⟩ := hv
  have hx := B.exec
  have hb := B.bytes
  have hr := B.returns
  have hts := atoms_spec (ws := wsX2_die) B.pre
  have hown : s.vm.findClass RX2 = some m.cls := findClass_of_methodNamed B.named
  have hlocks := B.notSynchronized
  have hS : va_S (bv_A G) s.heap s.heap [] := va_S.rf
  have wl0 := hts (.fieldLink RX2 22 "BoxVault" "dead" "[Z") (by decide +kernel)
  have wl1 := hts (.fieldLink RX2 11 "BoxVault" "boxes" "[LBoxVault$Box;") (by decide +kernel)
  have wl2 := hts (.initialized RX0) (by decide +kernel)
  have wl3 := hts (.instanceMethod yX0_endProxies) (by decide +kernel)
  have wl4 := hts (.selects RX0 yX0_endProxies yX0_endProxies) (by decide +kernel)
  have wl5 := hts (.instanceMethod yX0_isRented) (by decide +kernel)
  have wl6 := hts (.selects RX0 yX0_isRented yX0_isRented) (by decide +kernel)
  have hin0 : ∀ w ∈ wsX00, w ∈ wsX2_die := (fun w h => List.mem_cons_of_mem _ (List.mem_append_left _ (List.mem_append_left _ (List.mem_append_right _ h))))
  have hin2 : ∀ w ∈ wsX20, w ∈ wsX2_die := (fun w h => List.mem_cons_of_mem _ (List.mem_append_left _ (List.mem_append_left _ (List.mem_append_left _ (List.mem_append_right _ h)))))
  have hl := lv_entry ([.ref (bv_a G 0), .int p0]) (n := 4) (Nat.le_of_ble_eq_true rfl)
  rw [lg_entry_eq]
  generalize (lg_sl ([.ref (bv_a G 0), .int p0]) ++ List.replicate (4 - (lg_sl ([.ref (bv_a G 0), .int p0])).length) Slot.unset).toArray = ls at hl ⊢
  have hl : lv_has ls 4 [(0, .ref (bv_a G 0)), (1, .int p0)] := hl
  refine lv_iload_n hx hb dX2_die_0 rfl (lv_at hl 1 rfl) ?_
  refine bv_cxv (vx_runS (As := [.int p0]) (rest := []) ⟨hx, hb, hml, hown, hts⟩ (c_X2_requirePerson l hlt G (bv_vw S) M z p0 ) (va_cwS 1 hts gX2_die_X2_requirePerson rfl rfl rfl (by decide +kernel) ⟨Nat.le_of_ble_eq_true rfl, Nat.le_of_ble_eq_true rfl⟩) (bv_preS hz hP hK hE hS) rfl rfl hl.1 rfl (lv_room (Nat.le_of_ble_eq_true rfl)) dX2_die_1 ⟨Nat.le_of_ble_eq_true rfl, Nat.le_of_ble_eq_true rfl⟩) hS (bv_xout hh hlocks (Nat.le_of_ble_eq_true rfl) (Nat.le_of_ble_eq_true rfl) (fun k_1 => by have q9 := bv_rb_f (bI_1 k_1); rw [bI_t (bI_1 k_1)]; simp [sp_die, q9, bv_nb, bv_up_at, bv_vw_10, bv_v0, bv_v1, bv_v2, bv_v3, bv_v9, bv_v11, bv_v12, bv_v13, bv_v14, bv_v15])) (fun H locs k_1 hP hS => ?_)
  have r_1 := bv_rb_t (Decidable.not_not.mp (bI_0 k_1))
  obtain ⟨q, hq, ej⟩ := bv_of16 (Decidable.not_not.mp (bI_0 k_1))
  subst ej
  refine lv_aload_n hx hb dX2_die_4 rfl (lv_at hl 0 rfl) ?_
  refine bv_get_f (ci := 2) (C := RX2) (T := TX2) (N := 6) hx hb hts hin2 hown hK hP (bv_c0 G _ _ _) rfl 2 (by decide) wl0 rfl rfl dX2_die_5 ?_
  refine lv_iload_n hx hb dX2_die_8 rfl (lv_at hl 1 rfl) ?_
  refine bv_zald hx hb hK hP 3 (bv_c3 G _ _ _) q (rfl) (hq) (by decide) dX2_die_9 ?_
  refine lv_if_eq (tgt := 23) hx hb dX2_die_10 (by decide) (fun c_2 => ?_) (fun c_2 => ?_)
  · have c_2 : (S 1 q) = 0 := c_2
    refine lv_aload_n hx hb dX2_die_23 rfl (lv_at hl 0 rfl) ?_
    refine bv_get_f (ci := 2) (C := RX2) (T := TX2) (N := 6) hx hb hts hin2 hown hK hP (bv_c0 G _ _ _) rfl 2 (by decide) wl0 rfl rfl dX2_die_24 ?_
    refine lv_iload_n hx hb dX2_die_27 rfl (lv_at hl 1 rfl) ?_
    refine lv_iconst (v := 1) hx hb dX2_die_28 (by decide) ?_
    refine bv_zast hx hb hK hP hS 3 (bv_c3 G _ _ _ ) q (rfl) (hq) (by decide) (rfl) (bv_s3 G _ _ _ _ _) dX2_die_29 (fun H locs hP hS => ?_)
    refine lv_iconst (v := 0) hx hb dX2_die_30 (by decide) ?_
    refine lv_istore_n (lv' := [(2, .int 0), (0, .ref (bv_a G 0)), (1, .int (nI q))]) hx hb dX2_die_31 rfl hl (by decide) rfl (fun ls hl => ?_)
    refine lv_iconst (v := 0) hx hb dX2_die_32 (by decide) ?_
    refine lv_istore_n (lv' := [(3, .int 0), (2, .int 0), (0, .ref (bv_a G 0)), (1, .int (nI q))]) hx hb dX2_die_33 rfl hl (by decide) rfl (fun ls hl => ?_)
    refine bv_loop (G := G) (z := z) (nL := 4) (head := 34) 8 (fun i => bv_vw (bv_dp (bv_up S 1 q 1) q i)) (fun i => M) (fun i => [(0, .ref (bv_a G 0)), (1, .int (nI q)), (2, .int (bv_dc S q i)), (3, .int (nI i))]) (fun i => True) (fun i hi hv ih H locs ls hP hS hl => ?_) (trivial) _ _ _ (by rw [bv_dp_0, ← bv_vw_up _ (by decide) (by decide) (by decide)]; exact hP) hS (lv_sub hl [2, 3, 1, 0] rfl)
    have hP : bv_H G (bv_vw (bv_dp (bv_up S 1 q 1) q i)) M z H := hP
    have hl : lv_has ls 4 [(0, .ref (bv_a G 0)), (1, .int (nI q)), (2, .int (bv_dc S q i)), (3, .int (nI i))] := hl
    refine lv_iload_n hx hb dX2_die_34 rfl (lv_at hl 3 rfl) ?_
    refine lv_bipush (v := 8) hx hb dX2_die_35 (by decide) ?_
    refine lv_icmp_ge (tgt := 88) hx hb dX2_die_37 (by decide) (fun c_3 => ?_) (fun c_3 => ?_)
    · have c_3 : (8 : Int32) ≤ (nI i) := c_3
      have ei : i = 8 := bv_eq_of (x := 8) (c := 8) rfl (by decide) hi c_3
      refine lv_iload_n hx hb dX2_die_88 rfl (lv_at hl 2 rfl) ?_
      have hW : bv_H G (bv_vw (sp_die S (nI q)).2.2) M z H := by
        rw [show (sp_die S (nI q)).2.2 = bv_dp (bv_up S 1 q 1) q 8 from by simp [sp_die, r_1, bv_cl hq (by decide : 16 < 2 ^ 31), c_2, bv_nb, bv_up_at, bv_vw_10, bv_v0, bv_v1, bv_v2, bv_v3, bv_v9, bv_v11, bv_v12, bv_v13, bv_v14, bv_v15]]
        rw [← ei]
        exact hP
      exact bv_xiret hx hb hr hlocks hS (Nat.le_of_ble_eq_true rfl) (Nat.le_of_ble_eq_true rfl) dX2_die_89 (by simp [sp_die, r_1, bv_cl hq (by decide : 16 < 2 ^ 31), c_2, bv_nb, bv_up_at, bv_vw_10, bv_v0, bv_v1, bv_v2, bv_v3, bv_v9, bv_v11, bv_v12, bv_v13, bv_v14, bv_v15]) (by rw [ei]; simp [sp_die, r_1, bv_cl hq (by decide : 16 < 2 ^ 31), c_2, bv_nb, bv_up_at, bv_vw_10, bv_v0, bv_v1, bv_v2, bv_v3, bv_v9, bv_v11, bv_v12, bv_v13, bv_v14, bv_v15]) hW
    · have c_3 : ¬ (8 : Int32) ≤ (nI i) := c_3
      have hlt : i < 8 := bv_lt_of (x := 8) (c := 8) rfl (by decide) hi c_3
      refine lv_aload_n hx hb dX2_die_40 rfl (lv_at hl 0 rfl) ?_
      refine bv_get_f (ci := 2) (C := RX2) (T := TX2) (N := 6) hx hb hts hin2 hown hK hP (bv_c0 G _ _ _) rfl 0 (by decide) wl1 rfl rfl dX2_die_41 ?_
      refine lv_iload_n hx hb dX2_die_44 rfl (lv_at hl 3 rfl) ?_
      refine bv_aald hx hb hK hP i (rfl) (by omega) dX2_die_45 ?_
      refine bv_get_n (ref := "BoxVault$Box") (host := "BoxVault") (ci := 0) (C := RX0) (T := TX0) (N := 10) hx hb hts hin0 hown hK hP (bv_cB G _ _ _ (by omega)) rfl 1 (by decide) hE (by decide +kernel) rfl rfl dX2_die_46 ?_
      refine bv_eqi (y := bv_vw S 10 i) (bv_dpv S q i i) ?_
      refine lv_iload_n hx hb dX2_die_49 rfl (lv_at hl 1 rfl) ?_
      refine lv_icmp_ne (tgt := 82) hx hb dX2_die_50 (by decide) (fun c_4 => ?_) (fun c_4 => ?_)
      · have c_4 : ¬ (bv_vw S 10 i) = (nI q) := c_4
        refine lv_iinc (v := nI (i + 1)) (lv' := [(3, .int (nI (i + 1))), (0, .ref (bv_a G 0)), (1, .int (nI q)), (2, .int (bv_dc S q i))]) hx hb dX2_die_82 hl (k := 3) rfl (nI_1 _) (by decide) rfl (fun ls hl => ?_)
        refine lv_goto (tgt := 34) hx hb dX2_die_85 (by decide) ?_
        have e_2 : bv_dc S q i = bv_dc S q (i + 1) := by first | exact bv_dc_1 (by omega) (by assumption) (by assumption) | exact bv_dc_0 (by assumption) | exact bv_dc_n (by omega) (by assumption)
        rw [e_2] at hl
        have hW : bv_H G (bv_vw (bv_dp (bv_up S 1 q 1) q (i + 1))) M z H := by
          first | (rw [← bv_dp_y (Y := bv_up S 1 q 1) ((bv_hol (X := S) (by omega)).mp (by assumption)), ← bv_vw_up _ (by decide) (by decide) (by decide)]; exact hP) | (rw [← bv_dp_n (Y := bv_up S 1 q 1) (fun h => absurd ((bv_hol (X := S) (by omega)).mpr h) (by assumption))]; exact hP)
        exact ih (by omega) (trivial) _ _ _ hW hS (lv_sub hl [1, 2, 3, 0] rfl)
      · have c_4 : (bv_vw S 10 i) = (nI q) := c_4
        refine lv_aload_n hx hb dX2_die_53 rfl (lv_at hl 0 rfl) ?_
        refine bv_get_f (ci := 2) (C := RX2) (T := TX2) (N := 6) hx hb hts hin2 hown hK hP (bv_c0 G _ _ _) rfl 0 (by decide) wl1 rfl rfl dX2_die_54 ?_
        refine lv_iload_n hx hb dX2_die_57 rfl (lv_at hl 3 rfl) ?_
        refine bv_aald hx hb hK hP i (rfl) (by omega) dX2_die_58 ?_
        refine bv_cv (va_runVN (As := []) (rest := []) ⟨hx, hb, hml, hown, hts⟩ (c_X0_endProxies l G (bv_vw (bv_dp (bv_up S 1 q 1) q i)) M z i (by omega)) ⟨va_cnB (host := "BoxVault") 0 hts gX2_die_X0_endProxies_n157 rfl rfl rfl (hE.1 _ (by decide +kernel)) wl2 (by decide +kernel) ⟨Nat.le_of_ble_eq_true rfl, Nat.le_of_ble_eq_true rfl⟩, wl3, wl4⟩ (bv_preV hz hP hK hE hS (ci := 0) (bv_cB G _ _ _ (by omega)) rfl rfl) rfl rfl hl.1 rfl (lv_room (Nat.le_of_ble_eq_true rfl)) dX2_die_59 ⟨Nat.le_of_ble_eq_true rfl, Nat.le_of_ble_eq_true rfl⟩) hS (fun H locs hP hS => ?_)
        refine lv_iload_n hx hb dX2_die_62 rfl (lv_at hl 2 rfl) ?_
        refine lv_aload_n hx hb dX2_die_63 rfl (lv_at hl 0 rfl) ?_
        refine bv_get_f (ci := 2) (C := RX2) (T := TX2) (N := 6) hx hb hts hin2 hown hK hP (bv_c0 G _ _ _) rfl 0 (by decide) wl1 rfl rfl dX2_die_64 ?_
        refine lv_iload_n hx hb dX2_die_67 rfl (lv_at hl 3 rfl) ?_
        refine bv_aald hx hb hK hP i (rfl) (by omega) dX2_die_68 ?_
        refine bv_ci (va_runVN (As := []) (rest := [.int (bv_dc S q i)]) ⟨hx, hb, hml, hown, hts⟩ (c_X0_isRented l G (bv_up (bv_vw (bv_dp (bv_up S 1 q 1) q i)) 15 i 0) M z i (by omega)) ⟨va_cnB (host := "BoxVault") 0 hts gX2_die_X0_isRented_n160 rfl rfl rfl (hE.1 _ (by decide +kernel)) wl2 (by decide +kernel) ⟨Nat.le_of_ble_eq_true rfl, Nat.le_of_ble_eq_true rfl⟩, wl5, wl6⟩ (bv_preV hz hP hK hE hS (ci := 0) (bv_cB G _ _ _ (by omega)) rfl rfl) rfl rfl hl.1 rfl (lv_room (Nat.le_of_ble_eq_true rfl)) dX2_die_69 ⟨Nat.le_of_ble_eq_true rfl, Nat.le_of_ble_eq_true rfl⟩) hS (fun H locs hP hS => ?_)
        refine bv_eqi (y := bI (S 9 i = 1)) (rfl) ?_
        refine bv_ifeqB (tgt := 79) hx hb dX2_die_72 (by decide) (fun c_5 => ?_) (fun c_5 => ?_)
        · have c_5 : ¬ (S 9 i = 1) := c_5
          refine lv_iconst (v := 0) hx hb dX2_die_79 (by decide) ?_
          refine lv_iadd hx hb dX2_die_80 ?_
          refine lv_istore_n (lv' := [(2, .int ((bv_dc S q i) + 0)), (0, .ref (bv_a G 0)), (1, .int (nI q)), (3, .int (nI i))]) hx hb dX2_die_81 rfl hl (by decide) rfl (fun ls hl => ?_)
          refine lv_iinc (v := nI (i + 1)) (lv' := [(3, .int (nI (i + 1))), (2, .int ((bv_dc S q i) + 0)), (0, .ref (bv_a G 0)), (1, .int (nI q))]) hx hb dX2_die_82 hl (k := 3) rfl (nI_1 _) (by decide) rfl (fun ls hl => ?_)
          refine lv_goto (tgt := 34) hx hb dX2_die_85 (by decide) ?_
          have e_2 : (bv_dc S q i) + 0 = bv_dc S q (i + 1) := by first | exact bv_dc_1 (by omega) (by assumption) (by assumption) | exact bv_dc_0 (by assumption) | exact bv_dc_n (by omega) (by assumption)
          rw [e_2] at hl
          have hW : bv_H G (bv_vw (bv_dp (bv_up S 1 q 1) q (i + 1))) M z H := by
            first | (rw [← bv_dp_y (Y := bv_up S 1 q 1) ((bv_hol (X := S) (by omega)).mp (by assumption)), ← bv_vw_up _ (by decide) (by decide) (by decide)]; exact hP) | (rw [← bv_dp_n (Y := bv_up S 1 q 1) (fun h => absurd ((bv_hol (X := S) (by omega)).mpr h) (by assumption))]; exact hP)
          exact ih (by omega) (trivial) _ _ _ hW hS (lv_sub hl [2, 3, 1, 0] rfl)
        · have c_5 : (S 9 i = 1) := c_5
          refine lv_iconst (v := 1) hx hb dX2_die_75 (by decide) ?_
          refine lv_goto (tgt := 80) hx hb dX2_die_76 (by decide) ?_
          refine lv_iadd hx hb dX2_die_80 ?_
          refine lv_istore_n (lv' := [(2, .int ((bv_dc S q i) + 1)), (0, .ref (bv_a G 0)), (1, .int (nI q)), (3, .int (nI i))]) hx hb dX2_die_81 rfl hl (by decide) rfl (fun ls hl => ?_)
          refine lv_iinc (v := nI (i + 1)) (lv' := [(3, .int (nI (i + 1))), (2, .int ((bv_dc S q i) + 1)), (0, .ref (bv_a G 0)), (1, .int (nI q))]) hx hb dX2_die_82 hl (k := 3) rfl (nI_1 _) (by decide) rfl (fun ls hl => ?_)
          refine lv_goto (tgt := 34) hx hb dX2_die_85 (by decide) ?_
          have e_2 : (bv_dc S q i) + 1 = bv_dc S q (i + 1) := by first | exact bv_dc_1 (by omega) (by assumption) (by assumption) | exact bv_dc_0 (by assumption) | exact bv_dc_n (by omega) (by assumption)
          rw [e_2] at hl
          have hW : bv_H G (bv_vw (bv_dp (bv_up S 1 q 1) q (i + 1))) M z H := by
            first | (rw [← bv_dp_y (Y := bv_up S 1 q 1) ((bv_hol (X := S) (by omega)).mp (by assumption)), ← bv_vw_up _ (by decide) (by decide) (by decide)]; exact hP) | (rw [← bv_dp_n (Y := bv_up S 1 q 1) (fun h => absurd ((bv_hol (X := S) (by omega)).mpr h) (by assumption))]; exact hP)
          exact ih (by omega) (trivial) _ _ _ hW hS (lv_sub hl [2, 3, 1, 0] rfl)
  · have c_2 : ¬ (S 1 q) = 0 := c_2
    exact bv_throw (cls := "java/lang/IllegalStateException") (text := "the person is dead") (ik := 43) (is := 68) (ic := 47) hx hb hlt hts hown (by decide) (by decide +kernel) (by decide +kernel) (by decide) (fun w h => List.mem_cons_of_mem _ (List.mem_append_left _ (List.mem_append_right _ h))) bv_at47_2 bv_at47_g hE hS (by rw [hml]; exact hl.1) dX2_die_13 dX2_die_16 dX2_die_17 dX2_die_19 dX2_die_22 hh (Nat.le_of_ble_eq_true rfl) (Nat.le_of_ble_eq_true rfl) (Nat.le_of_ble_eq_true rfl) (Nat.le_of_ble_eq_true rfl) hlocks (Nat.le_of_ble_eq_true rfl) (Nat.le_of_ble_eq_true rfl) hP (Or.inr ⟨rfl, (by simp [sp_die, r_1, bv_cl hq (by decide : 16 < 2 ^ 31), c_2, bv_nb, bv_up_at, bv_vw_10, bv_v0, bv_v1, bv_v2, bv_v3, bv_v9, bv_v11, bv_v12, bv_v13, bv_v14, bv_v15])⟩)
set_option maxHeartbeats 4000000 in
set_option maxRecDepth 100000 in
theorem c_X2_order (l : Launch) (hlt : l.stackTraces = false) (G : bv_G) (S M : bv_X) (z : bv_Z) (n : Nat) (p0 : Int32) (p1 : Int32) (p2 : Int32) (p3 : Int32) (hn : n ≤ 1000) (hI : bv_I n S) : bv_Mx l yX2_order wsX2_order ({ frames := 8, cells := 5, slots := 30, locals := 125 }) [.ref (bv_a G 0), .int p0, .int p1, .int p2, .int p3] G (bv_vw S) M z ((sp_order S p0 p1 p2 p3).1) "java/lang/IllegalArgumentException" ((sp_order S p0 p1 p2 p3).2.1) (bv_vw (sp_order S p0 p1 p2 p3).2.2) M z := by
  refine vx_ofW (cc := cX2_order) (maxL := 6) (ret := (some .int)) (by decide) rfl ?_
  intro p e s m args below meth c s₁ B hml hh hv
  obtain ⟨rfl, hz, hP, hK, hE⟩ := hv
  have hx := B.exec
  have hb := B.bytes
  have hr := B.returns
  have hts := atoms_spec (ws := wsX2_order) B.pre
  have hown : s.vm.findClass RX2 = some m.cls := findClass_of_methodNamed B.named
  have hlocks := B.notSynchronized
  have hS : va_S (bv_A G) s.heap s.heap [] := va_S.rf
  have wl0 := hts (.initialized RX0) (by decide +kernel)
  have wl1 := hts (.instanceMethod yX0_isFree) (by decide +kernel)
  have wl2 := hts (.selects RX0 yX0_isFree yX0_isFree) (by decide +kernel)
  have wl3 := hts (.fieldLink RX2 18 "BoxVault" "orders" "LBoxVault$OrderBook;") (by decide +kernel)
  have wl4 := hts (.initialized RX1) (by decide +kernel)
  have wl5 := hts (.instanceMethod yX1_isFull) (by decide +kernel)
  have wl6 := hts (.selects RX1 yX1_isFull yX1_isFull) (by decide +kernel)
  have wl7 := hts (.instanceMethod yX1_add) (by decide +kernel)
  have wl8 := hts (.selects RX1 yX1_add yX1_add) (by decide +kernel)
  have hin2 : ∀ w ∈ wsX20, w ∈ wsX2_order := (fun w h => List.mem_cons_of_mem _ (List.mem_append_left _ (List.mem_append_left _ (List.mem_append_left _ (List.mem_append_left _ (List.mem_append_right _ h))))))
  have hl := lv_entry ([.ref (bv_a G 0), .int p0, .int p1, .int p2, .int p3]) (n := 6) (Nat.le_of_ble_eq_true rfl)
  rw [lg_entry_eq]
  generalize (lg_sl ([.ref (bv_a G 0), .int p0, .int p1, .int p2, .int p3]) ++ List.replicate (6 - (lg_sl ([.ref (bv_a G 0), .int p0, .int p1, .int p2, .int p3])).length) Slot.unset).toArray = ls at hl ⊢
  have hl : lv_has ls 6 [(0, .ref (bv_a G 0)), (1, .int p0), (2, .int p1), (3, .int p2), (4, .int p3)] := hl
  obtain ⟨cn, hc, ec⟩ := bv_I_cnt hI
  have ecn : (S 0 1).toNatClampNeg = cn := by rw [ec]; exact nI_clamp (by omega)
  refine lv_aload_n hx hb dX2_order_0 rfl (lv_at hl 0 rfl) ?_
  refine lv_iload_n hx hb dX2_order_1 rfl (lv_at hl 1 rfl) ?_
  refine bv_cxr (vx_runV (As := [.int p0]) (rest := []) ⟨hx, hb, hml, hown, hts⟩ (c_X2_boxAt l hlt G (bv_vw S) M z p0 ) (cwV 1 hts gX2_order_X2_boxAt rfl rfl rfl (by decide +kernel) ⟨Nat.le_of_ble_eq_true rfl, Nat.le_of_ble_eq_true rfl⟩) (bv_preV hz hP hK hE hS (ci := 2) (bv_c0 G _ _ _) rfl rfl) rfl rfl hl.1 rfl (lv_room (Nat.le_of_ble_eq_true rfl)) dX2_order_2 ⟨Nat.le_of_ble_eq_true rfl, Nat.le_of_ble_eq_true rfl⟩) hS (bv_xout hh hlocks (Nat.le_of_ble_eq_true rfl) (Nat.le_of_ble_eq_true rfl) (fun k_1 => by have q9 := bv_rb_f (bI_1 k_1); rw [bI_t (bI_1 k_1)]; simp [sp_order, q9, bv_nb, bv_up_at, bv_vw_10, bv_v0, bv_v1, bv_v2, bv_v3, bv_v9, bv_v11, bv_v12, bv_v13, bv_v14, bv_v15, ecn])) (fun H locs k_1 hP hS => ?_)
  have r_1 := bv_rb_t (Decidable.not_not.mp (bI_0 k_1))
  obtain ⟨j, hj, ej⟩ := bv_of8 (Decidable.not_not.mp (bI_0 k_1))
  subst ej
  rw [bv_cl hj (by decide)]
  refine lv_astore (lv' := [(5, .ref (bv_a G (11 + j))), (0, .ref (bv_a G 0)), (1, .int (nI j)), (2, .int p1), (3, .int p2), (4, .int p3)]) hx hb dX2_order_5 hl (by decide) rfl (fun ls hl => ?_)
  refine lv_iload_n hx hb dX2_order_7 rfl (lv_at hl 3 rfl) ?_
  refine lv_iconst (v := 0) hx hb dX2_order_8 (by decide) ?_
  refine lv_iconst (v := 1) hx hb dX2_order_9 (by decide) ?_
  refine bv_cxv (vx_runS (As := [.int p1, .int 0, .int 1]) (rest := []) ⟨hx, hb, hml, hown, hts⟩ (c_X2_requireRange l hlt G (bv_vw S) M z p1 0 1 ) (va_cwS 3 hts gX2_order_X2_requireRange rfl rfl rfl (by decide +kernel) ⟨Nat.le_of_ble_eq_true rfl, Nat.le_of_ble_eq_true rfl⟩) (bv_preS hz hP hK hE hS) rfl rfl hl.1 rfl (lv_room (Nat.le_of_ble_eq_true rfl)) dX2_order_10 ⟨Nat.le_of_ble_eq_true rfl, Nat.le_of_ble_eq_true rfl⟩) hS (bv_xout hh hlocks (Nat.le_of_ble_eq_true rfl) (Nat.le_of_ble_eq_true rfl) (fun k_2 => by have q9 := bv_rb_f (bI_1 k_2); rw [bI_t (bI_1 k_2)]; simp [sp_order, q9, r_1, bv_cl hj (by decide : 8 < 2 ^ 31), bv_nb, bv_up_at, bv_vw_10, bv_v0, bv_v1, bv_v2, bv_v3, bv_v9, bv_v11, bv_v12, bv_v13, bv_v14, bv_v15, ecn])) (fun H locs k_2 hP hS => ?_)
  have r_2 := bv_rb_t (Decidable.not_not.mp (bI_0 k_2))
  refine lv_iload_n hx hb dX2_order_13 rfl (lv_at hl 4 rfl) ?_
  refine lv_iconst (v := 0) hx hb dX2_order_14 (by decide) ?_
  refine lv_iconst (v := 2) hx hb dX2_order_15 (by decide) ?_
  refine bv_cxv (vx_runS (As := [.int p2, .int 0, .int 2]) (rest := []) ⟨hx, hb, hml, hown, hts⟩ (c_X2_requireRange l hlt G (bv_vw S) M z p2 0 2 ) (va_cwS 3 hts gX2_order_X2_requireRange rfl rfl rfl (by decide +kernel) ⟨Nat.le_of_ble_eq_true rfl, Nat.le_of_ble_eq_true rfl⟩) (bv_preS hz hP hK hE hS) rfl rfl hl.1 rfl (lv_room (Nat.le_of_ble_eq_true rfl)) dX2_order_16 ⟨Nat.le_of_ble_eq_true rfl, Nat.le_of_ble_eq_true rfl⟩) hS (bv_xout hh hlocks (Nat.le_of_ble_eq_true rfl) (Nat.le_of_ble_eq_true rfl) (fun k_3 => by have q9 := bv_rb_f (bI_1 k_3); rw [bI_t (bI_1 k_3)]; simp [sp_order, q9, r_1, bv_cl hj (by decide : 8 < 2 ^ 31), r_2, bv_nb, bv_up_at, bv_vw_10, bv_v0, bv_v1, bv_v2, bv_v3, bv_v9, bv_v11, bv_v12, bv_v13, bv_v14, bv_v15, ecn])) (fun H locs k_3 hP hS => ?_)
  have r_3 := bv_rb_t (Decidable.not_not.mp (bI_0 k_3))
  refine lv_iload_n hx hb dX2_order_19 rfl (lv_at hl 4 rfl) ?_
  refine lv_iconst (v := 1) hx hb dX2_order_20 (by decide) ?_
  refine lv_icmp_ne (tgt := 29) hx hb dX2_order_21 (by decide) (fun c_4 => ?_) (fun c_4 => ?_)
  · have c_4 : ¬ p2 = 1 := c_4
    refine lv_aload hx hb dX2_order_29 (lv_at hl 0 rfl) ?_
    refine bv_ci (va_runVN (As := []) (rest := []) ⟨hx, hb, hml, hown, hts⟩ (c_X0_isFree l G (bv_vw S) M z j (by omega)) ⟨va_cnB (host := "BoxVault") 0 hts gX2_order_X0_isFree_n58 rfl rfl rfl (hE.1 _ (by decide +kernel)) wl0 (by decide +kernel) ⟨Nat.le_of_ble_eq_true rfl, Nat.le_of_ble_eq_true rfl⟩, wl1, wl2⟩ (bv_preV hz hP hK hE hS (ci := 0) (bv_cB G _ _ _ (hj)) rfl rfl) rfl rfl hl.1 rfl (lv_room (Nat.le_of_ble_eq_true rfl)) dX2_order_31 ⟨Nat.le_of_ble_eq_true rfl, Nat.le_of_ble_eq_true rfl⟩) hS (fun H locs hP hS => ?_)
    refine bv_ifeqB (tgt := 47) hx hb dX2_order_34 (by decide) (fun c_5 => ?_) (fun c_5 => ?_)
    · have c_5 : ¬ (S 9 j = 0) := c_5
      refine lv_aload_n hx hb dX2_order_47 rfl (lv_at hl 1 rfl) ?_
      refine bv_get_f (ci := 2) (C := RX2) (T := TX2) (N := 6) hx hb hts hin2 hown hK hP (bv_c0 G _ _ _) rfl 1 (by decide) wl3 rfl rfl dX2_order_48 ?_
      refine bv_ci (va_runVN (As := []) (rest := []) ⟨hx, hb, hml, hown, hts⟩ (c_X1_isFull l G (bv_vw S) M z  ) ⟨va_cnB (host := "BoxVault") 0 hts gX2_order_X1_isFull_n165 rfl rfl rfl (hE.1 _ (by decide +kernel)) wl4 (by decide +kernel) ⟨Nat.le_of_ble_eq_true rfl, Nat.le_of_ble_eq_true rfl⟩, wl5, wl6⟩ (bv_preV hz hP hK hE hS (ci := 1) (bv_c2 G _ _ _) rfl rfl) rfl rfl hl.1 rfl (lv_room (Nat.le_of_ble_eq_true rfl)) dX2_order_51 ⟨Nat.le_of_ble_eq_true rfl, Nat.le_of_ble_eq_true rfl⟩) hS (fun H locs hP hS => ?_)
      refine bv_ifeqB (tgt := 67) hx hb dX2_order_54 (by decide) (fun c_6 => ?_) (fun c_6 => ?_)
      · have c_6 : ¬ (¬ S 0 1 < 30) := c_6
        have hlt30 : cn < 30 := bv_lt5 (b := 30) ec (by omega) (by decide) (Decidable.not_not.mp (by assumption))
        have c_f7 : ¬ S 0 1 = 30 := bv_ne_lt (b := 30) ec hlt30 (by decide)
        refine lv_aload_n hx hb dX2_order_67 rfl (lv_at hl 1 rfl) ?_
        refine bv_get_f (ci := 2) (C := RX2) (T := TX2) (N := 6) hx hb hts hin2 hown hK hP (bv_c0 G _ _ _) rfl 1 (by decide) wl3 rfl rfl dX2_order_68 ?_
        refine lv_iload_n hx hb dX2_order_71 rfl (lv_at hl 2 rfl) ?_
        refine lv_iload_n hx hb dX2_order_72 rfl (lv_at hl 3 rfl) ?_
        refine lv_iload_n hx hb dX2_order_73 rfl (lv_at hl 4 rfl) ?_
        refine lv_iload hx hb dX2_order_74 (lv_at hl 5 rfl) ?_
        refine bv_ci (va_runVN (As := [.int (nI j), .int p1, .int p2, .int p3]) (rest := []) ⟨hx, hb, hml, hown, hts⟩ (c_X1_add l G (bv_vw S) M z (nI j) p1 p2 p3 cn (hlt30) (ec)) ⟨va_cnB (host := "BoxVault") 4 hts gX2_order_X1_add_n170 rfl rfl rfl (hE.1 _ (by decide +kernel)) wl4 (by decide +kernel) ⟨Nat.le_of_ble_eq_true rfl, Nat.le_of_ble_eq_true rfl⟩, wl7, wl8⟩ (bv_preV hz hP hK hE hS (ci := 1) (bv_c2 G _ _ _) rfl rfl) rfl rfl hl.1 rfl (lv_room (Nat.le_of_ble_eq_true rfl)) dX2_order_76 ⟨Nat.le_of_ble_eq_true rfl, Nat.le_of_ble_eq_true rfl⟩) hS (fun H locs hP hS => ?_)
        have hW : bv_H G (bv_vw (sp_order S (nI j) p1 p2 p3).2.2) M z H := by
          rw [show (sp_order S (nI j) p1 p2 p3).2.2 = bv_up (bv_up (bv_up (bv_up (bv_up (bv_up S 4 cn (nI j)) 5 cn p1) 6 cn p2) 7 cn p3) 8 cn 1) 0 1 (S 0 1 + 1) from by simp [sp_order, r_1, bv_cl hj (by decide : 8 < 2 ^ 31), r_2, r_3, c_4, c_5, c_f7, bv_nb, bv_up_at, bv_vw_10, bv_v0, bv_v1, bv_v2, bv_v3, bv_v9, bv_v11, bv_v12, bv_v13, bv_v14, bv_v15, ecn]]
          rw [← bv_vw_up _ (by decide) (by decide) (by decide), ← bv_vw_up _ (by decide) (by decide) (by decide), ← bv_vw_up _ (by decide) (by decide) (by decide), ← bv_vw_up _ (by decide) (by decide) (by decide), ← bv_vw_up _ (by decide) (by decide) (by decide), ← bv_vw_up _ (by decide) (by decide) (by decide)]
          exact hP
        exact bv_xiret hx hb hr hlocks hS (Nat.le_of_ble_eq_true rfl) (Nat.le_of_ble_eq_true rfl) dX2_order_79 (by simp [sp_order, r_1, bv_cl hj (by decide : 8 < 2 ^ 31), r_2, r_3, c_4, c_5, c_f7, bv_nb, bv_up_at, bv_vw_10, bv_v0, bv_v1, bv_v2, bv_v3, bv_v9, bv_v11, bv_v12, bv_v13, bv_v14, bv_v15, ecn]) (by simp [sp_order, r_1, bv_cl hj (by decide : 8 < 2 ^ 31), r_2, r_3, c_4, c_5, c_f7, bv_nb, bv_up_at, bv_vw_10, bv_v0, bv_v1, bv_v2, bv_v3, bv_v9, bv_v11, bv_v12, bv_v13, bv_v14, bv_v15, ecn]) hW
      · have c_6 : (¬ S 0 1 < 30) := c_6
        have c_f8 : S 0 1 = 30 := bv_eq_ge (b := 30) ec hc (by decide) c_6
        exact bv_throw (cls := "java/lang/IllegalStateException") (text := "there are too many orders") (ik := 43) (is := 168) (ic := 47) hx hb hlt hts hown (by decide) (by decide +kernel) (by decide +kernel) (by decide) (fun w h => List.mem_cons_of_mem _ (List.mem_append_left _ (List.mem_append_right _ h))) bv_at47_2 bv_at47_g hE hS (by rw [hml]; exact hl.1) dX2_order_57 dX2_order_60 dX2_order_61 dX2_order_63 dX2_order_66 hh (Nat.le_of_ble_eq_true rfl) (Nat.le_of_ble_eq_true rfl) (Nat.le_of_ble_eq_true rfl) (Nat.le_of_ble_eq_true rfl) hlocks (Nat.le_of_ble_eq_true rfl) (Nat.le_of_ble_eq_true rfl) hP (Or.inr ⟨rfl, (by simp [sp_order, r_1, bv_cl hj (by decide : 8 < 2 ^ 31), r_2, r_3, c_4, c_5, c_f8, bv_nb, bv_up_at, bv_vw_10, bv_v0, bv_v1, bv_v2, bv_v3, bv_v9, bv_v11, bv_v12, bv_v13, bv_v14, bv_v15, ecn])⟩)
    · have c_5 : (S 9 j = 0) := c_5
      exact bv_throw (cls := "java/lang/IllegalStateException") (text := "the box is free") (ik := 43) (is := 163) (ic := 47) hx hb hlt hts hown (by decide) (by decide +kernel) (by decide +kernel) (by decide) (fun w h => List.mem_cons_of_mem _ (List.mem_append_left _ (List.mem_append_right _ h))) bv_at47_2 bv_at47_g hE hS (by rw [hml]; exact hl.1) dX2_order_37 dX2_order_40 dX2_order_41 dX2_order_43 dX2_order_46 hh (Nat.le_of_ble_eq_true rfl) (Nat.le_of_ble_eq_true rfl) (Nat.le_of_ble_eq_true rfl) (Nat.le_of_ble_eq_true rfl) hlocks (Nat.le_of_ble_eq_true rfl) (Nat.le_of_ble_eq_true rfl) hP (Or.inr ⟨rfl, (by simp [sp_order, r_1, bv_cl hj (by decide : 8 < 2 ^ 31), r_2, r_3, c_4, c_5, bv_nb, bv_up_at, bv_vw_10, bv_v0, bv_v1, bv_v2, bv_v3, bv_v9, bv_v11, bv_v12, bv_v13, bv_v14, bv_v15, ecn])⟩)
  · have c_4 : p2 = 1 := c_4
    subst c_4
    refine lv_iload hx hb dX2_order_24 (lv_at hl 5 rfl) ?_
    refine bv_cxv (vx_runS (As := [.int p3]) (rest := []) ⟨hx, hb, hml, hown, hts⟩ (c_X2_requirePerson l hlt G (bv_vw S) M z p3 ) (va_cwS 1 hts gX2_order_X2_requirePerson rfl rfl rfl (by decide +kernel) ⟨Nat.le_of_ble_eq_true rfl, Nat.le_of_ble_eq_true rfl⟩) (bv_preS hz hP hK hE hS) rfl rfl hl.1 rfl (lv_room (Nat.le_of_ble_eq_true rfl)) dX2_order_26 ⟨Nat.le_of_ble_eq_true rfl, Nat.le_of_ble_eq_true rfl⟩) hS (bv_xout hh hlocks (Nat.le_of_ble_eq_true rfl) (Nat.le_of_ble_eq_true rfl) (fun k_9 => by have q9 := bv_rb_f (bI_1 k_9); rw [bI_t (bI_1 k_9)]; simp [sp_order, q9, r_1, bv_cl hj (by decide : 8 < 2 ^ 31), r_2, r_3, bv_nb, bv_up_at, bv_vw_10, bv_v0, bv_v1, bv_v2, bv_v3, bv_v9, bv_v11, bv_v12, bv_v13, bv_v14, bv_v15, ecn])) (fun H locs k_9 hP hS => ?_)
    have r_9 := bv_rb_t (Decidable.not_not.mp (bI_0 k_9))
    refine lv_aload hx hb dX2_order_29 (lv_at hl 0 rfl) ?_
    refine bv_ci (va_runVN (As := []) (rest := []) ⟨hx, hb, hml, hown, hts⟩ (c_X0_isFree l G (bv_vw S) M z j (by omega)) ⟨va_cnB (host := "BoxVault") 0 hts gX2_order_X0_isFree_n58 rfl rfl rfl (hE.1 _ (by decide +kernel)) wl0 (by decide +kernel) ⟨Nat.le_of_ble_eq_true rfl, Nat.le_of_ble_eq_true rfl⟩, wl1, wl2⟩ (bv_preV hz hP hK hE hS (ci := 0) (bv_cB G _ _ _ (hj)) rfl rfl) rfl rfl hl.1 rfl (lv_room (Nat.le_of_ble_eq_true rfl)) dX2_order_31 ⟨Nat.le_of_ble_eq_true rfl, Nat.le_of_ble_eq_true rfl⟩) hS (fun H locs hP hS => ?_)
    refine bv_ifeqB (tgt := 47) hx hb dX2_order_34 (by decide) (fun c_10 => ?_) (fun c_10 => ?_)
    · have c_10 : ¬ (S 9 j = 0) := c_10
      refine lv_aload_n hx hb dX2_order_47 rfl (lv_at hl 1 rfl) ?_
      refine bv_get_f (ci := 2) (C := RX2) (T := TX2) (N := 6) hx hb hts hin2 hown hK hP (bv_c0 G _ _ _) rfl 1 (by decide) wl3 rfl rfl dX2_order_48 ?_
      refine bv_ci (va_runVN (As := []) (rest := []) ⟨hx, hb, hml, hown, hts⟩ (c_X1_isFull l G (bv_vw S) M z  ) ⟨va_cnB (host := "BoxVault") 0 hts gX2_order_X1_isFull_n165 rfl rfl rfl (hE.1 _ (by decide +kernel)) wl4 (by decide +kernel) ⟨Nat.le_of_ble_eq_true rfl, Nat.le_of_ble_eq_true rfl⟩, wl5, wl6⟩ (bv_preV hz hP hK hE hS (ci := 1) (bv_c2 G _ _ _) rfl rfl) rfl rfl hl.1 rfl (lv_room (Nat.le_of_ble_eq_true rfl)) dX2_order_51 ⟨Nat.le_of_ble_eq_true rfl, Nat.le_of_ble_eq_true rfl⟩) hS (fun H locs hP hS => ?_)
      refine bv_ifeqB (tgt := 67) hx hb dX2_order_54 (by decide) (fun c_11 => ?_) (fun c_11 => ?_)
      · have c_11 : ¬ (¬ S 0 1 < 30) := c_11
        have hlt30 : cn < 30 := bv_lt5 (b := 30) ec (by omega) (by decide) (Decidable.not_not.mp (by assumption))
        have c_f12 : ¬ S 0 1 = 30 := bv_ne_lt (b := 30) ec hlt30 (by decide)
        refine lv_aload_n hx hb dX2_order_67 rfl (lv_at hl 1 rfl) ?_
        refine bv_get_f (ci := 2) (C := RX2) (T := TX2) (N := 6) hx hb hts hin2 hown hK hP (bv_c0 G _ _ _) rfl 1 (by decide) wl3 rfl rfl dX2_order_68 ?_
        refine lv_iload_n hx hb dX2_order_71 rfl (lv_at hl 2 rfl) ?_
        refine lv_iload_n hx hb dX2_order_72 rfl (lv_at hl 3 rfl) ?_
        refine lv_iload_n hx hb dX2_order_73 rfl (lv_at hl 4 rfl) ?_
        refine lv_iload hx hb dX2_order_74 (lv_at hl 5 rfl) ?_
        refine bv_ci (va_runVN (As := [.int (nI j), .int p1, .int 1, .int p3]) (rest := []) ⟨hx, hb, hml, hown, hts⟩ (c_X1_add l G (bv_vw S) M z (nI j) p1 1 p3 cn (hlt30) (ec)) ⟨va_cnB (host := "BoxVault") 4 hts gX2_order_X1_add_n170 rfl rfl rfl (hE.1 _ (by decide +kernel)) wl4 (by decide +kernel) ⟨Nat.le_of_ble_eq_true rfl, Nat.le_of_ble_eq_true rfl⟩, wl7, wl8⟩ (bv_preV hz hP hK hE hS (ci := 1) (bv_c2 G _ _ _) rfl rfl) rfl rfl hl.1 rfl (lv_room (Nat.le_of_ble_eq_true rfl)) dX2_order_76 ⟨Nat.le_of_ble_eq_true rfl, Nat.le_of_ble_eq_true rfl⟩) hS (fun H locs hP hS => ?_)
        have hW : bv_H G (bv_vw (sp_order S (nI j) p1 1 p3).2.2) M z H := by
          rw [show (sp_order S (nI j) p1 1 p3).2.2 = bv_up (bv_up (bv_up (bv_up (bv_up (bv_up S 4 cn (nI j)) 5 cn p1) 6 cn 1) 7 cn p3) 8 cn 1) 0 1 (S 0 1 + 1) from by simp [sp_order, r_1, bv_cl hj (by decide : 8 < 2 ^ 31), r_2, r_3, r_9, c_10, c_f12, bv_nb, bv_up_at, bv_vw_10, bv_v0, bv_v1, bv_v2, bv_v3, bv_v9, bv_v11, bv_v12, bv_v13, bv_v14, bv_v15, ecn]]
          rw [← bv_vw_up _ (by decide) (by decide) (by decide), ← bv_vw_up _ (by decide) (by decide) (by decide), ← bv_vw_up _ (by decide) (by decide) (by decide), ← bv_vw_up _ (by decide) (by decide) (by decide), ← bv_vw_up _ (by decide) (by decide) (by decide), ← bv_vw_up _ (by decide) (by decide) (by decide)]
          exact hP
        exact bv_xiret hx hb hr hlocks hS (Nat.le_of_ble_eq_true rfl) (Nat.le_of_ble_eq_true rfl) dX2_order_79 (by simp [sp_order, r_1, bv_cl hj (by decide : 8 < 2 ^ 31), r_2, r_3, r_9, c_10, c_f12, bv_nb, bv_up_at, bv_vw_10, bv_v0, bv_v1, bv_v2, bv_v3, bv_v9, bv_v11, bv_v12, bv_v13, bv_v14, bv_v15, ecn]) (by simp [sp_order, r_1, bv_cl hj (by decide : 8 < 2 ^ 31), r_2, r_3, r_9, c_10, c_f12, bv_nb, bv_up_at, bv_vw_10, bv_v0, bv_v1, bv_v2, bv_v3, bv_v9, bv_v11, bv_v12, bv_v13, bv_v14, bv_v15, ecn]) hW
      · have c_11 : (¬ S 0 1 < 30) := c_11
        have c_f13 : S 0 1 = 30 := bv_eq_ge (b := 30) ec hc (by decide) c_11
        exact bv_throw (cls := "java/lang/IllegalStateException") (text := "there are too many orders") (ik := 43) (is := 168) (ic := 47) hx hb hlt hts hown (by decide) (by decide +kernel) (by decide +kernel) (by decide) (fun w h => List.mem_cons_of_mem _ (List.mem_append_left _ (List.mem_append_right _ h))) bv_at47_2 bv_at47_g hE hS (by rw [hml]; exact hl.1) dX2_order_57 dX2_order_60 dX2_order_61 dX2_order_63 dX2_order_66 hh (Nat.le_of_ble_eq_true rfl) (Nat.le_of_ble_eq_true rfl) (Nat.le_of_ble_eq_true rfl) (Nat.le_of_ble_eq_true rfl) hlocks (Nat.le_of_ble_eq_true rfl) (Nat.le_of_ble_eq_true rfl) hP (Or.inr ⟨rfl, (by simp [sp_order, r_1, bv_cl hj (by decide : 8 < 2 ^ 31), r_2, r_3, r_9, c_10, c_f13, bv_nb, bv_up_at, bv_vw_10, bv_v0, bv_v1, bv_v2, bv_v3, bv_v9, bv_v11, bv_v12, bv_v13, bv_v14, bv_v15, ecn])⟩)
    · have c_10 : (S 9 j = 0) := c_10
      exact bv_throw (cls := "java/lang/IllegalStateException") (text := "the box is free") (ik := 43) (is := 163) (ic := 47) hx hb hlt hts hown (by decide) (by decide +kernel) (by decide +kernel) (by decide) (fun w h => List.mem_cons_of_mem _ (List.mem_append_left _ (List.mem_append_right _ h))) bv_at47_2 bv_at47_g hE hS (by rw [hml]; exact hl.1) dX2_order_37 dX2_order_40 dX2_order_41 dX2_order_43 dX2_order_46 hh (Nat.le_of_ble_eq_true rfl) (Nat.le_of_ble_eq_true rfl) (Nat.le_of_ble_eq_true rfl) (Nat.le_of_ble_eq_true rfl) hlocks (Nat.le_of_ble_eq_true rfl) (Nat.le_of_ble_eq_true rfl) hP (Or.inr ⟨rfl, (by simp [sp_order, r_1, bv_cl hj (by decide : 8 < 2 ^ 31), r_2, r_3, r_9, c_10, bv_nb, bv_up_at, bv_vw_10, bv_v0, bv_v1, bv_v2, bv_v3, bv_v9, bv_v11, bv_v12, bv_v13, bv_v14, bv_v15, ecn])⟩)
set_option maxHeartbeats 4000000 in
set_option maxRecDepth 100000 in
theorem c_X2_lift (l : Launch) (hlt : l.stackTraces = false) (G : bv_G) (S M : bv_X) (z : bv_Z) (n : Nat) (p0 : Int32) (hn : n ≤ 1000) (hI : bv_I n S) : bv_Mx l yX2_lift wsX2_lift ({ frames := 6, cells := 1, slots := 6, locals := 82 }) [.ref (bv_a G 0), .int p0] G (bv_vw S) M z ((sp_lift S p0).1) "java/lang/IndexOutOfBoundsException" ((sp_lift S p0).2.1) (bv_vw (sp_lift S p0).2.2) M z := by
  refine vx_ofW (cc := cX2_lift) (maxL := 3) (ret := (some .boolean)) (by decide) rfl ?_
  intro p e s m args below meth c s₁ B hml hh hv
  obtain ⟨rfl, hz, hP, hK, hE⟩ := hv
  have hx := B.exec
  have hb := B.bytes
  have hr := B.returns
  have hts := atoms_spec (ws := wsX2_lift) B.pre
  have hown : s.vm.findClass RX2 = some m.cls := findClass_of_methodNamed B.named
  have hlocks := B.notSynchronized
  have hS : va_S (bv_A G) s.heap s.heap [] := va_S.rf
  have wl0 := hts (.fieldLink RX2 18 "BoxVault" "orders" "LBoxVault$OrderBook;") (by decide +kernel)
  have wl1 := hts (.initialized RX1) (by decide +kernel)
  have wl2 := hts (.instanceMethod yX1_has) (by decide +kernel)
  have wl3 := hts (.selects RX1 yX1_has yX1_has) (by decide +kernel)
  have wl4 := hts (.instanceMethod yX1_isInForce) (by decide +kernel)
  have wl5 := hts (.selects RX1 yX1_isInForce yX1_isInForce) (by decide +kernel)
  have wl6 := hts (.instanceMethod yX1_isBinding) (by decide +kernel)
  have wl7 := hts (.selects RX1 yX1_isBinding yX1_isBinding) (by decide +kernel)
  have wl8 := hts (.instanceMethod yX1_end) (by decide +kernel)
  have wl9 := hts (.selects RX1 yX1_end yX1_end) (by decide +kernel)
  have hin2 : ∀ w ∈ wsX20, w ∈ wsX2_lift := (fun w h => List.mem_cons_of_mem _ (List.mem_append_left _ (List.mem_append_left _ (List.mem_append_left _ (List.mem_append_right _ h)))))
  have hl := lv_entry ([.ref (bv_a G 0), .int p0]) (n := 3) (Nat.le_of_ble_eq_true rfl)
  rw [lg_entry_eq]
  generalize (lg_sl ([.ref (bv_a G 0), .int p0]) ++ List.replicate (3 - (lg_sl ([.ref (bv_a G 0), .int p0])).length) Slot.unset).toArray = ls at hl ⊢
  have hl : lv_has ls 3 [(0, .ref (bv_a G 0)), (1, .int p0)] := hl
  obtain ⟨cn, hc, ec⟩ := bv_I_cnt hI
  refine lv_aload_n hx hb dX2_lift_0 rfl (lv_at hl 0 rfl) ?_
  refine bv_get_f (ci := 2) (C := RX2) (T := TX2) (N := 6) hx hb hts hin2 hown hK hP (bv_c0 G _ _ _) rfl 1 (by decide) wl0 rfl rfl dX2_lift_1 ?_
  refine lv_iload_n hx hb dX2_lift_4 rfl (lv_at hl 1 rfl) ?_
  refine bv_ci (va_runVN (As := [.int p0]) (rest := []) ⟨hx, hb, hml, hown, hts⟩ (c_X1_has l G (bv_vw S) M z p0 ) ⟨va_cnB (host := "BoxVault") 1 hts gX2_lift_X1_has_n174 rfl rfl rfl (hE.1 _ (by decide +kernel)) wl1 (by decide +kernel) ⟨Nat.le_of_ble_eq_true rfl, Nat.le_of_ble_eq_true rfl⟩, wl2, wl3⟩ (bv_preV hz hP hK hE hS (ci := 1) (bv_c2 G _ _ _) rfl rfl) rfl rfl hl.1 rfl (lv_room (Nat.le_of_ble_eq_true rfl)) dX2_lift_5 ⟨Nat.le_of_ble_eq_true rfl, Nat.le_of_ble_eq_true rfl⟩) hS (fun H locs hP hS => ?_)
  refine bv_ifneB (tgt := 21) hx hb dX2_lift_8 (by decide) (fun c_1 => ?_) (fun c_1 => ?_)
  · have c_1 : (¬ p0 < 0 ∧ ¬ S 0 1 ≤ p0 ∧ ¬ 30 ≤ p0) := c_1
    have r_h : bv_hb S p0 = true := by rw [bv_hb_v hI]; exact decide_eq_true c_1
    obtain ⟨i, hi, ei⟩ := bv_ofN (n := 30) (y := 30) (by decide) c_1.1 rfl c_1.2.2
    subst ei
    have hh0 : ¬ S 0 1 ≤ nI i := c_1.2.1
    refine lv_aload_n hx hb dX2_lift_21 rfl (lv_at hl 0 rfl) ?_
    refine bv_get_f (ci := 2) (C := RX2) (T := TX2) (N := 6) hx hb hts hin2 hown hK hP (bv_c0 G _ _ _) rfl 1 (by decide) wl0 rfl rfl dX2_lift_22 ?_
    refine lv_iload_n hx hb dX2_lift_25 rfl (lv_at hl 1 rfl) ?_
    refine bv_ci (va_runVN (As := [.int (nI i)]) (rest := []) ⟨hx, hb, hml, hown, hts⟩ (c_X1_isInForce l G (bv_vw S) M z i (by omega) (hh0)) ⟨va_cnB (host := "BoxVault") 1 hts gX2_lift_X1_isInForce_n182 rfl rfl rfl (hE.1 _ (by decide +kernel)) wl1 (by decide +kernel) ⟨Nat.le_of_ble_eq_true rfl, Nat.le_of_ble_eq_true rfl⟩, wl4, wl5⟩ (bv_preV hz hP hK hE hS (ci := 1) (bv_c2 G _ _ _) rfl rfl) rfl rfl hl.1 rfl (lv_room (Nat.le_of_ble_eq_true rfl)) dX2_lift_26 ⟨Nat.le_of_ble_eq_true rfl, Nat.le_of_ble_eq_true rfl⟩) hS (fun H locs hP hS => ?_)
    refine bv_ifneB (tgt := 42) hx hb dX2_lift_29 (by decide) (fun c_2 => ?_) (fun c_2 => ?_)
    · have c_2 : (¬ S 8 i = 0) := c_2
      refine lv_aload_n hx hb dX2_lift_42 rfl (lv_at hl 0 rfl) ?_
      refine bv_get_f (ci := 2) (C := RX2) (T := TX2) (N := 6) hx hb hts hin2 hown hK hP (bv_c0 G _ _ _) rfl 1 (by decide) wl0 rfl rfl dX2_lift_43 ?_
      refine lv_iload_n hx hb dX2_lift_46 rfl (lv_at hl 1 rfl) ?_
      refine bv_ci (va_runVN (As := [.int (nI i)]) (rest := []) ⟨hx, hb, hml, hown, hts⟩ (c_X1_isBinding l G (bv_vw S) M z i cn (by omega) (hh0) (hc) (ec)) ⟨va_cnB (host := "BoxVault") 1 hts gX2_lift_X1_isBinding_n187 rfl rfl rfl (hE.1 _ (by decide +kernel)) wl1 (by decide +kernel) ⟨Nat.le_of_ble_eq_true rfl, Nat.le_of_ble_eq_true rfl⟩, wl6, wl7⟩ (bv_preV hz hP hK hE hS (ci := 1) (bv_c2 G _ _ _) rfl rfl) rfl rfl hl.1 rfl (lv_room (Nat.le_of_ble_eq_true rfl)) dX2_lift_47 ⟨Nat.le_of_ble_eq_true rfl, Nat.le_of_ble_eq_true rfl⟩) hS (fun H locs hP hS => ?_)
      refine bv_eqi (y := bI (bv_bd S (S 4 i) = nI i)) (congrArg (fun t => bI (t = nI i)) ((bv_vw_bn S _ cn).trans (bv_bd_c ec hc))) ?_
      refine lv_istore_n (lv' := [(2, .int (bI (bv_bd S (S 4 i) = nI i))), (0, .ref (bv_a G 0)), (1, .int (nI i))]) hx hb dX2_lift_50 rfl hl (by decide) rfl (fun ls hl => ?_)
      refine lv_aload_n hx hb dX2_lift_51 rfl (lv_at hl 1 rfl) ?_
      refine bv_get_f (ci := 2) (C := RX2) (T := TX2) (N := 6) hx hb hts hin2 hown hK hP (bv_c0 G _ _ _) rfl 1 (by decide) wl0 rfl rfl dX2_lift_52 ?_
      refine lv_iload_n hx hb dX2_lift_55 rfl (lv_at hl 2 rfl) ?_
      refine bv_cv (va_runVN (As := [.int (nI i)]) (rest := []) ⟨hx, hb, hml, hown, hts⟩ (c_X1_end l G (bv_vw S) M z i (by omega) (hh0)) ⟨va_cnB (host := "BoxVault") 1 hts gX2_lift_X1_end_n190 rfl rfl rfl (hE.1 _ (by decide +kernel)) wl1 (by decide +kernel) ⟨Nat.le_of_ble_eq_true rfl, Nat.le_of_ble_eq_true rfl⟩, wl8, wl9⟩ (bv_preV hz hP hK hE hS (ci := 1) (bv_c2 G _ _ _) rfl rfl) rfl rfl hl.1 rfl (lv_room (Nat.le_of_ble_eq_true rfl)) dX2_lift_56 ⟨Nat.le_of_ble_eq_true rfl, Nat.le_of_ble_eq_true rfl⟩) hS (fun H locs hP hS => ?_)
      refine lv_iload_n hx hb dX2_lift_59 rfl (lv_at hl 0 rfl) ?_
      have hW : bv_H G (bv_vw (sp_lift S (nI i)).2.2) M z H := by
        rw [show (sp_lift S (nI i)).2.2 = bv_up S 8 i 0 from by simp [sp_lift, r_h, bv_cl hi (by decide : 30 < 2 ^ 31), c_2, bv_nb, bv_up_at, bv_vw_10, bv_v0, bv_v1, bv_v2, bv_v3, bv_v9, bv_v11, bv_v12, bv_v13, bv_v14, bv_v15]]
        rw [← bv_vw_up _ (by decide) (by decide) (by decide)]
        exact hP
      exact bv_xzret hx hb hr hlocks (bI_nz) hS (Nat.le_of_ble_eq_true rfl) (Nat.le_of_ble_eq_true rfl) dX2_lift_60 (by simp [sp_lift, r_h, bv_cl hi (by decide : 30 < 2 ^ 31), c_2, bv_nb, bv_up_at, bv_vw_10, bv_v0, bv_v1, bv_v2, bv_v3, bv_v9, bv_v11, bv_v12, bv_v13, bv_v14, bv_v15]) (by simp [sp_lift, r_h, bv_cl hi (by decide : 30 < 2 ^ 31), c_2, bv_nb, bv_up_at, bv_vw_10, bv_v0, bv_v1, bv_v2, bv_v3, bv_v9, bv_v11, bv_v12, bv_v13, bv_v14, bv_v15]) hW
    · have c_2 : ¬ (¬ S 8 i = 0) := c_2
      have c_f3 := Decidable.not_not.mp c_2
      exact bv_throw (cls := "java/lang/IllegalStateException") (text := "the order does not hold any more") (ik := 43) (is := 185) (ic := 47) hx hb hlt hts hown (by decide) (by decide +kernel) (by decide +kernel) (by decide) (fun w h => List.mem_cons_of_mem _ (List.mem_append_right _ h)) bv_at47_2 bv_at47_g hE hS (by rw [hml]; exact hl.1) dX2_lift_32 dX2_lift_35 dX2_lift_36 dX2_lift_38 dX2_lift_41 hh (Nat.le_of_ble_eq_true rfl) (Nat.le_of_ble_eq_true rfl) (Nat.le_of_ble_eq_true rfl) (Nat.le_of_ble_eq_true rfl) hlocks (Nat.le_of_ble_eq_true rfl) (Nat.le_of_ble_eq_true rfl) hP (Or.inr ⟨rfl, (by simp [sp_lift, r_h, bv_cl hi (by decide : 30 < 2 ^ 31), c_f3, bv_nb, bv_up_at, bv_vw_10, bv_v0, bv_v1, bv_v2, bv_v3, bv_v9, bv_v11, bv_v12, bv_v13, bv_v14, bv_v15])⟩)
  · have c_1 : ¬ (¬ p0 < 0 ∧ ¬ S 0 1 ≤ p0 ∧ ¬ 30 ≤ p0) := c_1
    have r_h : bv_hb S p0 = false := by rw [bv_hb_v hI]; exact decide_eq_false c_1
    exact bv_throw (cls := "java/lang/IndexOutOfBoundsException") (text := "there was no such order") (ik := 177) (is := 179) (ic := 181) hx hb hlt hts hown (by decide) (by decide +kernel) (by decide +kernel) (by decide) (fun w h => List.mem_cons_of_mem _ (List.mem_append_left _ (List.mem_append_right _ h))) bv_at181_2 bv_at181_g hE hS (by rw [hml]; exact hl.1) dX2_lift_11 dX2_lift_14 dX2_lift_15 dX2_lift_17 dX2_lift_20 hh (Nat.le_of_ble_eq_true rfl) (Nat.le_of_ble_eq_true rfl) (Nat.le_of_ble_eq_true rfl) (Nat.le_of_ble_eq_true rfl) hlocks (Nat.le_of_ble_eq_true rfl) (Nat.le_of_ble_eq_true rfl) hP (Or.inl ⟨rfl, (by simp [sp_lift, r_h, bv_nb, bv_up_at, bv_vw_10, bv_v0, bv_v1, bv_v2, bv_v3, bv_v9, bv_v11, bv_v12, bv_v13, bv_v14, bv_v15])⟩)
set_option maxHeartbeats 4000000 in
set_option maxRecDepth 100000 in
theorem c_X2_enter (l : Launch) (hlt : l.stackTraces = false) (G : bv_G) (S M : bv_X) (z : bv_Z) (n : Nat) (p0 : Int32) (p1 : Int32) (p2 : Int32) (hn : n ≤ 1000) (hI : bv_I n S) : bv_Mx l yX2_enter wsX2_enter ({ frames := 8, cells := 4, slots := 24, locals := 125 }) [.ref (bv_a G 0), .int p0, .int p1, .int p2] G (bv_vw S) M z ((sp_enter S p0 p1 p2).1) "java/lang/IllegalArgumentException" ((sp_enter S p0 p1 p2).2.1) (bv_vw (sp_enter S p0 p1 p2).2.2) M z := by
  refine vx_ofW (cc := cX2_enter) (maxL := 6) (ret := (some .int)) (by decide) rfl ?_
  intro p e s m args below meth c s₁ B hml hh hv
  obtain ⟨rfl, hz, hP, hK, hE⟩ := hv
  have hx := B.exec
  have hb := B.bytes
  have hr := B.returns
  have hts := atoms_spec (ws := wsX2_enter) B.pre
  have hown : s.vm.findClass RX2 = some m.cls := findClass_of_methodNamed B.named
  have hlocks := B.notSynchronized
  have hS : va_S (bv_A G) s.heap s.heap [] := va_S.rf
  have wl0 := hts (.fieldLink RX2 30 "BoxVault" "refused" "[I") (by decide +kernel)
  have hin0 : ∀ w ∈ wsX00, w ∈ wsX2_enter := (fun w h => List.mem_cons_of_mem _ (List.mem_append_left _ (List.mem_append_left _ (List.mem_append_left _ (List.mem_append_right _ h)))))
  have hin2 : ∀ w ∈ wsX20, w ∈ wsX2_enter := (fun w h => List.mem_cons_of_mem _ (List.mem_append_left _ (List.mem_append_left _ (List.mem_append_left _ (List.mem_append_left _ (List.mem_append_right _ h))))))
  have hl := lv_entry ([.ref (bv_a G 0), .int p0, .int p1, .int p2]) (n := 6) (Nat.le_of_ble_eq_true rfl)
  rw [lg_entry_eq]
  generalize (lg_sl ([.ref (bv_a G 0), .int p0, .int p1, .int p2]) ++ List.replicate (6 - (lg_sl ([.ref (bv_a G 0), .int p0, .int p1, .int p2])).length) Slot.unset).toArray = ls at hl ⊢
  have hl : lv_has ls 6 [(0, .ref (bv_a G 0)), (1, .int p0), (2, .int p1), (3, .int p2)] := hl
  refine lv_aload_n hx hb dX2_enter_0 rfl (lv_at hl 0 rfl) ?_
  refine lv_iload_n hx hb dX2_enter_1 rfl (lv_at hl 1 rfl) ?_
  refine bv_cxr (vx_runV (As := [.int p0]) (rest := []) ⟨hx, hb, hml, hown, hts⟩ (c_X2_boxAt l hlt G (bv_vw S) M z p0 ) (cwV 1 hts gX2_enter_X2_boxAt rfl rfl rfl (by decide +kernel) ⟨Nat.le_of_ble_eq_true rfl, Nat.le_of_ble_eq_true rfl⟩) (bv_preV hz hP hK hE hS (ci := 2) (bv_c0 G _ _ _) rfl rfl) rfl rfl hl.1 rfl (lv_room (Nat.le_of_ble_eq_true rfl)) dX2_enter_2 ⟨Nat.le_of_ble_eq_true rfl, Nat.le_of_ble_eq_true rfl⟩) hS (bv_xout hh hlocks (Nat.le_of_ble_eq_true rfl) (Nat.le_of_ble_eq_true rfl) (fun k_1 => by have q9 := bv_rb_f (bI_1 k_1); rw [bI_t (bI_1 k_1)]; simp [sp_enter, q9, bv_nb, bv_up_at, bv_vw_10, bv_v0, bv_v1, bv_v2, bv_v3, bv_v9, bv_v11, bv_v12, bv_v13, bv_v14, bv_v15, bv_co])) (fun H locs k_1 hP hS => ?_)
  have r_1 := bv_rb_t (Decidable.not_not.mp (bI_0 k_1))
  obtain ⟨j, hj, ej⟩ := bv_of8 (Decidable.not_not.mp (bI_0 k_1))
  subst ej
  rw [bv_cl hj (by decide)]
  refine lv_astore (lv' := [(4, .ref (bv_a G (11 + j))), (0, .ref (bv_a G 0)), (1, .int (nI j)), (2, .int p1), (3, .int p2)]) hx hb dX2_enter_5 hl (by decide) rfl (fun ls hl => ?_)
  refine lv_iload_n hx hb dX2_enter_7 rfl (lv_at hl 3 rfl) ?_
  refine bv_cxv (vx_runS (As := [.int p1]) (rest := []) ⟨hx, hb, hml, hown, hts⟩ (c_X2_requirePerson l hlt G (bv_vw S) M z p1 ) (va_cwS 1 hts gX2_enter_X2_requirePerson rfl rfl rfl (by decide +kernel) ⟨Nat.le_of_ble_eq_true rfl, Nat.le_of_ble_eq_true rfl⟩) (bv_preS hz hP hK hE hS) rfl rfl hl.1 rfl (lv_room (Nat.le_of_ble_eq_true rfl)) dX2_enter_8 ⟨Nat.le_of_ble_eq_true rfl, Nat.le_of_ble_eq_true rfl⟩) hS (bv_xout hh hlocks (Nat.le_of_ble_eq_true rfl) (Nat.le_of_ble_eq_true rfl) (fun k_2 => by have q9 := bv_rb_f (bI_1 k_2); rw [bI_t (bI_1 k_2)]; simp [sp_enter, q9, r_1, bv_cl hj (by decide : 8 < 2 ^ 31), bv_nb, bv_up_at, bv_vw_10, bv_v0, bv_v1, bv_v2, bv_v3, bv_v9, bv_v11, bv_v12, bv_v13, bv_v14, bv_v15, bv_co])) (fun H locs k_2 hP hS => ?_)
  have r_2 := bv_rb_t (Decidable.not_not.mp (bI_0 k_2))
  obtain ⟨q, hq, ej⟩ := bv_of16 (Decidable.not_not.mp (bI_0 k_2))
  subst ej
  refine lv_iload_n hx hb dX2_enter_11 rfl (lv_at hl 4 rfl) ?_
  refine lv_iconst (v := 0) hx hb dX2_enter_12 (by decide) ?_
  refine lv_bipush (v := 100) hx hb dX2_enter_13 (by decide) ?_
  refine bv_cxv (vx_runS (As := [.int p2, .int 0, .int 100]) (rest := []) ⟨hx, hb, hml, hown, hts⟩ (c_X2_requireRange l hlt G (bv_vw S) M z p2 0 100 ) (va_cwS 3 hts gX2_enter_X2_requireRange rfl rfl rfl (by decide +kernel) ⟨Nat.le_of_ble_eq_true rfl, Nat.le_of_ble_eq_true rfl⟩) (bv_preS hz hP hK hE hS) rfl rfl hl.1 rfl (lv_room (Nat.le_of_ble_eq_true rfl)) dX2_enter_15 ⟨Nat.le_of_ble_eq_true rfl, Nat.le_of_ble_eq_true rfl⟩) hS (bv_xout hh hlocks (Nat.le_of_ble_eq_true rfl) (Nat.le_of_ble_eq_true rfl) (fun k_3 => by have q9 := bv_rb_f (bI_1 k_3); rw [bI_t (bI_1 k_3)]; simp [sp_enter, q9, r_1, bv_cl hj (by decide : 8 < 2 ^ 31), r_2, bv_cl hq (by decide : 16 < 2 ^ 31), bv_nb, bv_up_at, bv_vw_10, bv_v0, bv_v1, bv_v2, bv_v3, bv_v9, bv_v11, bv_v12, bv_v13, bv_v14, bv_v15, bv_co])) (fun H locs k_3 hP hS => ?_)
  have r_3 := bv_rb_t (Decidable.not_not.mp (bI_0 k_3))
  refine lv_aload hx hb dX2_enter_18 (lv_at hl 0 rfl) ?_
  refine bv_cxv (vx_runS (As := [.ref (bv_a G (11 + j))]) (rest := []) ⟨hx, hb, hml, hown, hts⟩ (c_X2_requireRented l hlt G (bv_vw S) M z j (by omega)) (va_cwS 1 hts gX2_enter_X2_requireRented rfl rfl rfl (by decide +kernel) ⟨Nat.le_of_ble_eq_true rfl, Nat.le_of_ble_eq_true rfl⟩) (bv_preS hz hP hK hE hS) rfl rfl hl.1 rfl (lv_room (Nat.le_of_ble_eq_true rfl)) dX2_enter_20 ⟨Nat.le_of_ble_eq_true rfl, Nat.le_of_ble_eq_true rfl⟩) hS (bv_xout hh hlocks (Nat.le_of_ble_eq_true rfl) (Nat.le_of_ble_eq_true rfl) (fun k_4 => by have q9 : ¬ (S 9 j = 1) := bJ_1 k_4; rw [bJ_t (bJ_1 k_4)]; simp [sp_enter, q9, r_1, bv_cl hj (by decide : 8 < 2 ^ 31), r_2, bv_cl hq (by decide : 16 < 2 ^ 31), r_3, bv_nb, bv_up_at, bv_vw_10, bv_v0, bv_v1, bv_v2, bv_v3, bv_v9, bv_v11, bv_v12, bv_v13, bv_v14, bv_v15, bv_co])) (fun H locs k_4 hP hS => ?_)
  have r_4 : S 9 j = 1 := Decidable.not_not.mp (bJ_0 k_4)
  refine lv_aload_n hx hb dX2_enter_23 rfl (lv_at hl 1 rfl) ?_
  refine lv_iload_n hx hb dX2_enter_24 rfl (lv_at hl 2 rfl) ?_
  refine lv_aload hx hb dX2_enter_25 (lv_at hl 0 rfl) ?_
  refine lv_iload_n hx hb dX2_enter_27 rfl (lv_at hl 3 rfl) ?_
  refine bv_ci (va_runV (As := [.int (nI j), .ref (bv_a G (11 + j)), .int (nI q)]) (rest := []) ⟨hx, hb, hml, hown, hts⟩ (c_X2_rightOf l G S M z n j q (hn) (hI) (by omega) (by omega)) (cwV 3 hts gX2_enter_X2_rightOf rfl rfl rfl (by decide +kernel) ⟨Nat.le_of_ble_eq_true rfl, Nat.le_of_ble_eq_true rfl⟩) (bv_preV hz hP hK hE hS (ci := 2) (bv_c0 G _ _ _) rfl rfl) rfl rfl hl.1 rfl (lv_room (Nat.le_of_ble_eq_true rfl)) dX2_enter_28 ⟨Nat.le_of_ble_eq_true rfl, Nat.le_of_ble_eq_true rfl⟩) hS (fun H locs hP hS => ?_)
  refine lv_istore (lv' := [(5, .int (bv_rt S j q)), (4, .ref (bv_a G (11 + j))), (0, .ref (bv_a G 0)), (1, .int (nI j)), (2, .int (nI q)), (3, .int p2)]) hx hb dX2_enter_31 hl (by decide) rfl (fun ls hl => ?_)
  refine lv_iload hx hb dX2_enter_33 (lv_at hl 0 rfl) ?_
  refine lv_iconst (v := 3) hx hb dX2_enter_35 (by decide) ?_
  refine lv_icmp_eq (tgt := 48) hx hb dX2_enter_36 (by decide) (fun c_5 => ?_) (fun c_5 => ?_)
  · have c_5 : (bv_rt S j q) = 3 := c_5
    refine lv_iload hx hb dX2_enter_48 (lv_at hl 0 rfl) ?_
    refine lv_iconst (v := 3) hx hb dX2_enter_50 (by decide) ?_
    refine lv_icmp_eq (tgt := 60) hx hb dX2_enter_51 (by decide) (fun c_6 => ?_) (fun c_6 => ?_)
    · have c_6 : (bv_rt S j q) = 3 := c_6
      refine lv_aload_n hx hb dX2_enter_60 rfl (lv_at hl 2 rfl) ?_
      refine bv_get_f (ci := 2) (C := RX2) (T := TX2) (N := 6) hx hb hts hin2 hown hK hP (bv_c0 G _ _ _) rfl 4 (by decide) wl0 rfl rfl dX2_enter_61 ?_
      refine lv_iload_n hx hb dX2_enter_64 rfl (lv_at hl 4 rfl) ?_
      refine lv_dup2_11 hx hb dX2_enter_65 rfl rfl ?_
      refine bv_iald hx hb hK hP 5 (bv_c5 G _ _ _) q (rfl) (hq) (by decide) dX2_enter_66 ?_
      refine lv_iconst (v := 1) hx hb dX2_enter_67 (by decide) ?_
      refine lv_iadd hx hb dX2_enter_68 ?_
      refine bv_iast hx hb hK hP hS 5 (bv_c5 G _ _ _ ) q (rfl) (hq) (by decide) (bv_s5 G _ _ _ _ _) dX2_enter_69 (fun H locs hP hS => ?_)
      refine lv_iload hx hb dX2_enter_70 (lv_at hl 0 rfl) ?_
      have hW : bv_H G (bv_vw (sp_enter S (nI j) (nI q) p2).2.2) M z H := by
        rw [show (sp_enter S (nI j) (nI q) p2).2.2 = bv_en S j q 3 from by simp [sp_enter, r_1, bv_cl hj (by decide : 8 < 2 ^ 31), r_2, bv_cl hq (by decide : 16 < 2 ^ 31), r_3, r_4, c_5, c_6, bv_nb, bv_up_at, bv_vw_10, bv_v0, bv_v1, bv_v2, bv_v3, bv_v9, bv_v11, bv_v12, bv_v13, bv_v14, bv_v15, bv_co]]
        rw [bv_en_r hI hj (Or.inr rfl)]
        rw [← bv_vw_up _ (by decide) (by decide) (by decide)]
        exact hP
      exact bv_xiret hx hb hr hlocks hS (Nat.le_of_ble_eq_true rfl) (Nat.le_of_ble_eq_true rfl) dX2_enter_72 (by simp [sp_enter, r_1, bv_cl hj (by decide : 8 < 2 ^ 31), r_2, bv_cl hq (by decide : 16 < 2 ^ 31), r_3, r_4, c_5, c_6, bv_nb, bv_up_at, bv_vw_10, bv_v0, bv_v1, bv_v2, bv_v3, bv_v9, bv_v11, bv_v12, bv_v13, bv_v14, bv_v15, bv_co]) (by simp [sp_enter, r_1, bv_cl hj (by decide : 8 < 2 ^ 31), r_2, bv_cl hq (by decide : 16 < 2 ^ 31), r_3, r_4, c_5, c_6, bv_nb, bv_up_at, bv_vw_10, bv_v0, bv_v1, bv_v2, bv_v3, bv_v9, bv_v11, bv_v12, bv_v13, bv_v14, bv_v15, bv_co]) hW
    · exact absurd c_5 c_6
  · have c_5 : ¬ (bv_rt S j q) = 3 := c_5
    refine lv_iload_n hx hb dX2_enter_39 rfl (lv_at hl 5 rfl) ?_
    refine lv_bipush (v := 60) hx hb dX2_enter_40 (by decide) ?_
    refine lv_icmp_ge (tgt := 48) hx hb dX2_enter_42 (by decide) (fun c_7 => ?_) (fun c_7 => ?_)
    · have c_7 : (60 : Int32) ≤ p2 := c_7
      have c_l : ¬ p2 < 60 := bv_ln c_7
      refine lv_iload hx hb dX2_enter_48 (lv_at hl 0 rfl) ?_
      refine lv_iconst (v := 3) hx hb dX2_enter_50 (by decide) ?_
      refine lv_icmp_eq (tgt := 60) hx hb dX2_enter_51 (by decide) (fun c_8 => ?_) (fun c_8 => ?_)
      · exact absurd c_8 c_5
      · have c_8 : ¬ (bv_rt S j q) = 3 := c_8
        refine lv_iload hx hb dX2_enter_54 (lv_at hl 0 rfl) ?_
        refine lv_iconst (v := 2) hx hb dX2_enter_56 (by decide) ?_
        refine lv_icmp_ne (tgt := 73) hx hb dX2_enter_57 (by decide) (fun c_9 => ?_) (fun c_9 => ?_)
        · have c_9 : ¬ (bv_rt S j q) = 2 := c_9
          refine lv_aload hx hb dX2_enter_73 (lv_at hl 1 rfl) ?_
          refine lv_dup hx hb dX2_enter_75 rfl ?_
          refine bv_get_n (ref := "BoxVault$Box") (host := "BoxVault") (ci := 0) (C := RX0) (T := TX0) (N := 10) hx hb hts hin0 hown hK hP (bv_cB G _ _ _ (hj)) rfl 4 (by decide) hE (by decide +kernel) rfl rfl dX2_enter_76 ?_
          refine lv_iconst (v := 1) hx hb dX2_enter_79 (by decide) ?_
          refine lv_iadd hx hb dX2_enter_80 ?_
          refine bv_put_n (ref := "BoxVault$Box") (host := "BoxVault") (ci := 0) (C := RX0) (T := TX0) (N := 10) (ty := .int) hx hb hts hin0 tyX0 tyX0_ok nmX0 hown hK hP hS (bv_cB G _ _ _ (hj)) rfl 4 (by decide) hE (by decide +kernel) rfl rfl rfl rfl rfl (Nat.le_of_ble_eq_true rfl) rfl (bv_sB13 G _ _ _ (hj) _) dX2_enter_81 (fun H locs hP hS => ?_)
          refine lv_iload hx hb dX2_enter_84 (lv_at hl 0 rfl) ?_
          refine lv_iconst (v := 1) hx hb dX2_enter_86 (by decide) ?_
          refine lv_icmp_ne (tgt := 96) hx hb dX2_enter_87 (by decide) (fun c_10 => ?_) (fun c_10 => ?_)
          · have c_10 : ¬ (bv_rt S j q) = 1 := c_10
            have c_z : bv_rt S j q = 0 := bv_rt_0 c_10 c_8
            refine lv_iload hx hb dX2_enter_96 (lv_at hl 0 rfl) ?_
            have hW : bv_H G (bv_vw (sp_enter S (nI j) (nI q) p2).2.2) M z H := by
              rw [show (sp_enter S (nI j) (nI q) p2).2.2 = bv_en S j q 0 from by simp [sp_enter, r_1, bv_cl hj (by decide : 8 < 2 ^ 31), r_2, bv_cl hq (by decide : 16 < 2 ^ 31), r_3, r_4, c_5, c_l, c_8, c_9, c_10, c_z, bv_nb, bv_up_at, bv_vw_10, bv_v0, bv_v1, bv_v2, bv_v3, bv_v9, bv_v11, bv_v12, bv_v13, bv_v14, bv_v15, bv_co]]
              rw [bv_en_e hI hj]
              rw [← bv_vw_up _ (by decide) (by decide) (by decide)]
              exact hP
            exact bv_xiret hx hb hr hlocks hS (Nat.le_of_ble_eq_true rfl) (Nat.le_of_ble_eq_true rfl) dX2_enter_98 (by simp [sp_enter, r_1, bv_cl hj (by decide : 8 < 2 ^ 31), r_2, bv_cl hq (by decide : 16 < 2 ^ 31), r_3, r_4, c_5, c_l, c_8, c_9, c_10, c_z, bv_nb, bv_up_at, bv_vw_10, bv_v0, bv_v1, bv_v2, bv_v3, bv_v9, bv_v11, bv_v12, bv_v13, bv_v14, bv_v15, bv_co]) (by simp [sp_enter, r_1, bv_cl hj (by decide : 8 < 2 ^ 31), r_2, bv_cl hq (by decide : 16 < 2 ^ 31), r_3, r_4, c_5, c_l, c_8, c_9, c_10, c_z, bv_nb, bv_up_at, bv_vw_10, bv_v0, bv_v1, bv_v2, bv_v3, bv_v9, bv_v11, bv_v12, bv_v13, bv_v14, bv_v15, bv_co]) hW
          · have c_10 : (bv_rt S j q) = 1 := c_10
            refine lv_aload hx hb dX2_enter_90 (lv_at hl 1 rfl) ?_
            refine lv_iconst (v := 1) hx hb dX2_enter_92 (by decide) ?_
            refine bv_put_n (ref := "BoxVault$Box") (host := "BoxVault") (ci := 0) (C := RX0) (T := TX0) (N := 10) (ty := .boolean) hx hb hts hin0 tyX0 tyX0_ok nmX0 hown hK hP hS (bv_cB G _ _ _ (hj)) rfl 5 (by decide) hE (by decide +kernel) rfl rfl rfl rfl rfl (Nat.le_of_ble_eq_true rfl) rfl (bv_sB14 G _ _ _ (hj) _) dX2_enter_93 (fun H locs hP hS => ?_)
            refine lv_iload hx hb dX2_enter_96 (lv_at hl 0 rfl) ?_
            have hW : bv_H G (bv_vw (sp_enter S (nI j) (nI q) p2).2.2) M z H := by
              rw [show (sp_enter S (nI j) (nI q) p2).2.2 = bv_en S j q 1 from by simp [sp_enter, r_1, bv_cl hj (by decide : 8 < 2 ^ 31), r_2, bv_cl hq (by decide : 16 < 2 ^ 31), r_3, r_4, c_5, c_l, c_8, c_9, c_10, bv_nb, bv_up_at, bv_vw_10, bv_v0, bv_v1, bv_v2, bv_v3, bv_v9, bv_v11, bv_v12, bv_v13, bv_v14, bv_v15, bv_co]]
              rw [bv_en_l, ← bv_vw_up _ (by decide) (by decide) (by decide), ← bv_vw_up _ (by decide) (by decide) (by decide)]
              exact hP
            exact bv_xiret hx hb hr hlocks hS (Nat.le_of_ble_eq_true rfl) (Nat.le_of_ble_eq_true rfl) dX2_enter_98 (by simp [sp_enter, r_1, bv_cl hj (by decide : 8 < 2 ^ 31), r_2, bv_cl hq (by decide : 16 < 2 ^ 31), r_3, r_4, c_5, c_l, c_8, c_9, c_10, bv_nb, bv_up_at, bv_vw_10, bv_v0, bv_v1, bv_v2, bv_v3, bv_v9, bv_v11, bv_v12, bv_v13, bv_v14, bv_v15, bv_co]) (by simp [sp_enter, r_1, bv_cl hj (by decide : 8 < 2 ^ 31), r_2, bv_cl hq (by decide : 16 < 2 ^ 31), r_3, r_4, c_5, c_l, c_8, c_9, c_10, bv_nb, bv_up_at, bv_vw_10, bv_v0, bv_v1, bv_v2, bv_v3, bv_v9, bv_v11, bv_v12, bv_v13, bv_v14, bv_v15, bv_co]) hW
        · exact absurd c_9 bv_rt_n2
    · have c_7 : ¬ (60 : Int32) ≤ p2 := c_7
      have c_f11 : p2 < 60 := bv_nlt c_7
      refine lv_iconst (v := 2) hx hb dX2_enter_45 (by decide) ?_
      refine lv_istore (lv' := [(5, .int 2), (4, .ref (bv_a G (11 + j))), (0, .ref (bv_a G 0)), (1, .int (nI j)), (2, .int (nI q)), (3, .int p2)]) hx hb dX2_enter_46 hl (by decide) rfl (fun ls hl => ?_)
      refine lv_iload hx hb dX2_enter_48 (lv_at hl 0 rfl) ?_
      refine lv_iconst (v := 3) hx hb dX2_enter_50 (by decide) ?_
      refine lv_icmp_eq (tgt := 60) hx hb dX2_enter_51 (by decide) (fun c_12 => ?_) (fun c_12 => ?_)
      · exact absurd c_12 (by decide)
      · have c_12 : ¬ (2 : Int32) = 3 := c_12
        refine lv_iload hx hb dX2_enter_54 (lv_at hl 0 rfl) ?_
        refine lv_iconst (v := 2) hx hb dX2_enter_56 (by decide) ?_
        refine lv_icmp_ne (tgt := 73) hx hb dX2_enter_57 (by decide) (fun c_13 => ?_) (fun c_13 => ?_)
        · exact absurd c_13 (by decide)
        · have c_13 : (2 : Int32) = 2 := c_13
          refine lv_aload_n hx hb dX2_enter_60 rfl (lv_at hl 2 rfl) ?_
          refine bv_get_f (ci := 2) (C := RX2) (T := TX2) (N := 6) hx hb hts hin2 hown hK hP (bv_c0 G _ _ _) rfl 4 (by decide) wl0 rfl rfl dX2_enter_61 ?_
          refine lv_iload_n hx hb dX2_enter_64 rfl (lv_at hl 4 rfl) ?_
          refine lv_dup2_11 hx hb dX2_enter_65 rfl rfl ?_
          refine bv_iald hx hb hK hP 5 (bv_c5 G _ _ _) q (rfl) (hq) (by decide) dX2_enter_66 ?_
          refine lv_iconst (v := 1) hx hb dX2_enter_67 (by decide) ?_
          refine lv_iadd hx hb dX2_enter_68 ?_
          refine bv_iast hx hb hK hP hS 5 (bv_c5 G _ _ _ ) q (rfl) (hq) (by decide) (bv_s5 G _ _ _ _ _) dX2_enter_69 (fun H locs hP hS => ?_)
          refine lv_iload hx hb dX2_enter_70 (lv_at hl 0 rfl) ?_
          have hW : bv_H G (bv_vw (sp_enter S (nI j) (nI q) p2).2.2) M z H := by
            rw [show (sp_enter S (nI j) (nI q) p2).2.2 = bv_en S j q 2 from by simp [sp_enter, r_1, bv_cl hj (by decide : 8 < 2 ^ 31), r_2, bv_cl hq (by decide : 16 < 2 ^ 31), r_3, r_4, c_5, c_f11, c_12, c_13, bv_nb, bv_up_at, bv_vw_10, bv_v0, bv_v1, bv_v2, bv_v3, bv_v9, bv_v11, bv_v12, bv_v13, bv_v14, bv_v15, bv_co]]
            rw [bv_en_r hI hj (Or.inl rfl)]
            rw [← bv_vw_up _ (by decide) (by decide) (by decide)]
            exact hP
          exact bv_xiret hx hb hr hlocks hS (Nat.le_of_ble_eq_true rfl) (Nat.le_of_ble_eq_true rfl) dX2_enter_72 (by simp [sp_enter, r_1, bv_cl hj (by decide : 8 < 2 ^ 31), r_2, bv_cl hq (by decide : 16 < 2 ^ 31), r_3, r_4, c_5, c_f11, c_12, c_13, bv_nb, bv_up_at, bv_vw_10, bv_v0, bv_v1, bv_v2, bv_v3, bv_v9, bv_v11, bv_v12, bv_v13, bv_v14, bv_v15, bv_co]) (by simp [sp_enter, r_1, bv_cl hj (by decide : 8 < 2 ^ 31), r_2, bv_cl hq (by decide : 16 < 2 ^ 31), r_3, r_4, c_5, c_f11, c_12, c_13, bv_nb, bv_up_at, bv_vw_10, bv_v0, bv_v1, bv_v2, bv_v3, bv_v9, bv_v11, bv_v12, bv_v13, bv_v14, bv_v15, bv_co]) hW
set_option maxHeartbeats 4000000 in
set_option maxRecDepth 100000 in
theorem c_X2_mayAll (l : Launch) (hlt : l.stackTraces = false) (G : bv_G) (S M : bv_X) (z : bv_Z) (n : Nat) (p0 : Int32) (hn : n ≤ 1000) (hI : bv_I n S) : bv_Mx l yX2_mayAll wsX2_mayAll ({ frames := 8, cells := 1, slots := 6, locals := 125 }) [.ref (bv_a G 0), .int p0] G (bv_vw S) M z ((sp_mayAll S p0).1) "java/lang/IllegalArgumentException" ((sp_mayAll S p0).2.1) (bv_vw (sp_mayAll S p0).2.2) M z := by
  refine vx_ofW (cc := cX2_mayAll) (maxL := 5) (ret := (some .int)) (by decide) rfl ?_
  intro p e s m args below meth c s₁ B hml hh hv
  obtain ⟨rfl, hz, hP, hK, hE⟩ := hv
  have hx := B.exec
  have hb := B.bytes
  have hr := B.returns
  have hts := atoms_spec (ws := wsX2_mayAll) B.pre
  have hown : s.vm.findClass RX2 = some m.cls := findClass_of_methodNamed B.named
  have hlocks := B.notSynchronized
  have hS : va_S (bv_A G) s.heap s.heap [] := va_S.rf
  have hl := lv_entry ([.ref (bv_a G 0), .int p0]) (n := 5) (Nat.le_of_ble_eq_true rfl)
  rw [lg_entry_eq]
  generalize (lg_sl ([.ref (bv_a G 0), .int p0]) ++ List.replicate (5 - (lg_sl ([.ref (bv_a G 0), .int p0])).length) Slot.unset).toArray = ls at hl ⊢
  have hl : lv_has ls 5 [(0, .ref (bv_a G 0)), (1, .int p0)] := hl
  refine lv_aload_n hx hb dX2_mayAll_0 rfl (lv_at hl 0 rfl) ?_
  refine lv_iload_n hx hb dX2_mayAll_1 rfl (lv_at hl 1 rfl) ?_
  refine bv_cxr (vx_runV (As := [.int p0]) (rest := []) ⟨hx, hb, hml, hown, hts⟩ (c_X2_boxAt l hlt G (bv_vw S) M z p0 ) (cwV 1 hts gX2_mayAll_X2_boxAt rfl rfl rfl (by decide +kernel) ⟨Nat.le_of_ble_eq_true rfl, Nat.le_of_ble_eq_true rfl⟩) (bv_preV hz hP hK hE hS (ci := 2) (bv_c0 G _ _ _) rfl rfl) rfl rfl hl.1 rfl (lv_room (Nat.le_of_ble_eq_true rfl)) dX2_mayAll_2 ⟨Nat.le_of_ble_eq_true rfl, Nat.le_of_ble_eq_true rfl⟩) hS (bv_xout hh hlocks (Nat.le_of_ble_eq_true rfl) (Nat.le_of_ble_eq_true rfl) (fun k_1 => by have q9 := bv_rb_f (bI_1 k_1); rw [bI_t (bI_1 k_1)]; simp [sp_mayAll, q9, bv_nb, bv_up_at, bv_vw_10, bv_v0, bv_v1, bv_v2, bv_v3, bv_v9, bv_v11, bv_v12, bv_v13, bv_v14, bv_v15])) (fun H locs k_1 hP hS => ?_)
  have r_1 := bv_rb_t (Decidable.not_not.mp (bI_0 k_1))
  obtain ⟨j, hj, ej⟩ := bv_of8 (Decidable.not_not.mp (bI_0 k_1))
  subst ej
  rw [bv_cl hj (by decide)]
  refine lv_astore_n (lv' := [(2, .ref (bv_a G (11 + j))), (0, .ref (bv_a G 0)), (1, .int (nI j))]) hx hb dX2_mayAll_5 rfl hl (by decide) rfl (fun ls hl => ?_)
  refine lv_iconst (v := 0) hx hb dX2_mayAll_6 (by decide) ?_
  refine lv_istore_n (lv' := [(3, .int 0), (2, .ref (bv_a G (11 + j))), (0, .ref (bv_a G 0)), (1, .int (nI j))]) hx hb dX2_mayAll_7 rfl hl (by decide) rfl (fun ls hl => ?_)
  refine lv_iconst (v := 0) hx hb dX2_mayAll_8 (by decide) ?_
  refine lv_istore (lv' := [(4, .int 0), (3, .int 0), (2, .ref (bv_a G (11 + j))), (0, .ref (bv_a G 0)), (1, .int (nI j))]) hx hb dX2_mayAll_9 hl (by decide) rfl (fun ls hl => ?_)
  refine bv_loop (G := G) (z := z) (nL := 5) (head := 11) 16 (fun i => bv_vw S) (fun i => M) (fun i => [(0, .ref (bv_a G 0)), (1, .int (nI j)), (2, .ref (bv_a G (11 + j))), (3, .int (bv_ma S j i)), (4, .int (nI i))]) (fun i => True) (fun i hi hv ih H locs ls hP hS hl => ?_) (trivial) _ _ _ hP hS (lv_sub hl [3, 4, 2, 1, 0] rfl)
  have hP : bv_H G (bv_vw S) M z H := hP
  have hl : lv_has ls 5 [(0, .ref (bv_a G 0)), (1, .int (nI j)), (2, .ref (bv_a G (11 + j))), (3, .int (bv_ma S j i)), (4, .int (nI i))] := hl
  refine lv_iload hx hb dX2_mayAll_11 (lv_at hl 4 rfl) ?_
  refine lv_bipush (v := 16) hx hb dX2_mayAll_13 (by decide) ?_
  refine lv_icmp_ge (tgt := 39) hx hb dX2_mayAll_15 (by decide) (fun c_2 => ?_) (fun c_2 => ?_)
  · have c_2 : (16 : Int32) ≤ (nI i) := c_2
    have ei : i = 16 := bv_eq_of (x := 16) (c := 16) rfl (by decide) hi c_2
    refine lv_iload_n hx hb dX2_mayAll_39 rfl (lv_at hl 3 rfl) ?_
    have hW : bv_H G (bv_vw (sp_mayAll S (nI j)).2.2) M z H := by
      rw [show (sp_mayAll S (nI j)).2.2 = S from by simp [sp_mayAll, r_1, bv_cl hj (by decide : 8 < 2 ^ 31), bv_nb, bv_up_at, bv_vw_10, bv_v0, bv_v1, bv_v2, bv_v3, bv_v9, bv_v11, bv_v12, bv_v13, bv_v14, bv_v15]]
      exact hP
    exact bv_xiret hx hb hr hlocks hS (Nat.le_of_ble_eq_true rfl) (Nat.le_of_ble_eq_true rfl) dX2_mayAll_40 (by simp [sp_mayAll, r_1, bv_cl hj (by decide : 8 < 2 ^ 31), bv_nb, bv_up_at, bv_vw_10, bv_v0, bv_v1, bv_v2, bv_v3, bv_v9, bv_v11, bv_v12, bv_v13, bv_v14, bv_v15]) (by rw [ei]; simp [sp_mayAll, r_1, bv_cl hj (by decide : 8 < 2 ^ 31), bv_nb, bv_up_at, bv_vw_10, bv_v0, bv_v1, bv_v2, bv_v3, bv_v9, bv_v11, bv_v12, bv_v13, bv_v14, bv_v15]) hW
  · have c_2 : ¬ (16 : Int32) ≤ (nI i) := c_2
    have hlt : i < 16 := bv_lt_of (x := 16) (c := 16) rfl (by decide) hi c_2
    refine lv_aload_n hx hb dX2_mayAll_18 rfl (lv_at hl 0 rfl) ?_
    refine lv_iload_n hx hb dX2_mayAll_19 rfl (lv_at hl 1 rfl) ?_
    refine lv_aload_n hx hb dX2_mayAll_20 rfl (lv_at hl 2 rfl) ?_
    refine lv_iload hx hb dX2_mayAll_21 (lv_at hl 4 rfl) ?_
    refine bv_ci (va_runV (As := [.int (nI j), .ref (bv_a G (11 + j)), .int (nI i)]) (rest := []) ⟨hx, hb, hml, hown, hts⟩ (c_X2_rightOf l G S M z n j i (hn) (hI) (by omega) (by omega)) (cwV 3 hts gX2_mayAll_X2_rightOf rfl rfl rfl (by decide +kernel) ⟨Nat.le_of_ble_eq_true rfl, Nat.le_of_ble_eq_true rfl⟩) (bv_preV hz hP hK hE hS (ci := 2) (bv_c0 G _ _ _) rfl rfl) rfl rfl hl.1 rfl (lv_room (Nat.le_of_ble_eq_true rfl)) dX2_mayAll_23 ⟨Nat.le_of_ble_eq_true rfl, Nat.le_of_ble_eq_true rfl⟩) hS (fun H locs hP hS => ?_)
    refine lv_iconst (v := 3) hx hb dX2_mayAll_26 (by decide) ?_
    refine lv_icmp_eq (tgt := 33) hx hb dX2_mayAll_27 (by decide) (fun c_3 => ?_) (fun c_3 => ?_)
    · have c_3 : (bv_rt S j i) = 3 := c_3
      refine lv_iinc (v := nI (i + 1)) (lv' := [(4, .int (nI (i + 1))), (0, .ref (bv_a G 0)), (1, .int (nI j)), (2, .ref (bv_a G (11 + j))), (3, .int (bv_ma S j i))]) hx hb dX2_mayAll_33 hl (k := 4) rfl (nI_1 _) (by decide) rfl (fun ls hl => ?_)
      refine lv_goto (tgt := 11) hx hb dX2_mayAll_36 (by decide) ?_
      have e_3 : bv_ma S j i = bv_ma S j (i + 1) := by rw [bv_ma_s]; first | rw [if_neg (by assumption)] | rw [if_pos (by assumption), Int32.add_zero]
      rw [e_3] at hl
      exact ih (by omega) (trivial) _ _ _ hP hS (lv_sub hl [1, 2, 3, 4, 0] rfl)
    · have c_3 : ¬ (bv_rt S j i) = 3 := c_3
      refine lv_iinc (v := (bv_ma S j i) + 1) (lv' := [(3, .int ((bv_ma S j i) + 1)), (0, .ref (bv_a G 0)), (1, .int (nI j)), (2, .ref (bv_a G (11 + j))), (4, .int (nI i))]) hx hb dX2_mayAll_30 hl (k := 3) rfl (rfl) (by decide) rfl (fun ls hl => ?_)
      refine lv_iinc (v := nI (i + 1)) (lv' := [(4, .int (nI (i + 1))), (3, .int ((bv_ma S j i) + 1)), (0, .ref (bv_a G 0)), (1, .int (nI j)), (2, .ref (bv_a G (11 + j)))]) hx hb dX2_mayAll_33 hl (k := 4) rfl (nI_1 _) (by decide) rfl (fun ls hl => ?_)
      refine lv_goto (tgt := 11) hx hb dX2_mayAll_36 (by decide) ?_
      have e_3 : (bv_ma S j i) + 1 = bv_ma S j (i + 1) := by rw [bv_ma_s]; first | rw [if_neg (by assumption)] | rw [if_pos (by assumption), Int32.add_zero]
      rw [e_3] at hl
      exact ih (by omega) (trivial) _ _ _ hP hS (lv_sub hl [2, 3, 4, 1, 0] rfl)
set_option maxHeartbeats 4000000 in
set_option maxRecDepth 100000 in
theorem c_X2_notices (l : Launch) (hlt : l.stackTraces = false) (G : bv_G) (S M : bv_X) (z : bv_Z) (n : Nat) (p0 : Int32) (hn : n ≤ 1000) (hI : bv_I n S) : bv_Mx l yX2_notices wsX2_notices ({ frames := 8, cells := 1, slots := 6, locals := 125 }) [.ref (bv_a G 0), .int p0] G (bv_vw S) M z ((sp_notices S p0).1) "java/lang/IllegalArgumentException" ((sp_notices S p0).2.1) (bv_vw (sp_notices S p0).2.2) M z := by
  refine vx_ofW (cc := cX2_notices) (maxL := 3) (ret := (some .int)) (by decide) rfl ?_
  intro p e s m args below meth c s₁ B hml hh hv
  obtain ⟨rfl, hz, hP, hK, hE⟩ := hv
  have hx := B.exec
  have hb := B.bytes
  have hr := B.returns
  have hts := atoms_spec (ws := wsX2_notices) B.pre
  have hown : s.vm.findClass RX2 = some m.cls := findClass_of_methodNamed B.named
  have hlocks := B.notSynchronized
  have hS : va_S (bv_A G) s.heap s.heap [] := va_S.rf
  have wl0 := hts (.initialized RX0) (by decide +kernel)
  have wl1 := hts (.instanceMethod yX0_isRented) (by decide +kernel)
  have wl2 := hts (.selects RX0 yX0_isRented yX0_isRented) (by decide +kernel)
  have wl3 := hts (.fieldLink RX2 33 "BoxVault" "today" "I") (by decide +kernel)
  have wl4 := hts (.instanceMethod yX0_noticesOn) (by decide +kernel)
  have wl5 := hts (.selects RX0 yX0_noticesOn yX0_noticesOn) (by decide +kernel)
  have hin2 : ∀ w ∈ wsX20, w ∈ wsX2_notices := (fun w h => List.mem_cons_of_mem _ (List.mem_append_left _ (List.mem_append_left _ (List.mem_append_right _ h))))
  have hl := lv_entry ([.ref (bv_a G 0), .int p0]) (n := 3) (Nat.le_of_ble_eq_true rfl)
  rw [lg_entry_eq]
  generalize (lg_sl ([.ref (bv_a G 0), .int p0]) ++ List.replicate (3 - (lg_sl ([.ref (bv_a G 0), .int p0])).length) Slot.unset).toArray = ls at hl ⊢
  have hl : lv_has ls 3 [(0, .ref (bv_a G 0)), (1, .int p0)] := hl
  refine lv_aload_n hx hb dX2_notices_0 rfl (lv_at hl 0 rfl) ?_
  refine lv_iload_n hx hb dX2_notices_1 rfl (lv_at hl 1 rfl) ?_
  refine bv_cxr (vx_runV (As := [.int p0]) (rest := []) ⟨hx, hb, hml, hown, hts⟩ (c_X2_boxAt l hlt G (bv_vw S) M z p0 ) (cwV 1 hts gX2_notices_X2_boxAt rfl rfl rfl (by decide +kernel) ⟨Nat.le_of_ble_eq_true rfl, Nat.le_of_ble_eq_true rfl⟩) (bv_preV hz hP hK hE hS (ci := 2) (bv_c0 G _ _ _) rfl rfl) rfl rfl hl.1 rfl (lv_room (Nat.le_of_ble_eq_true rfl)) dX2_notices_2 ⟨Nat.le_of_ble_eq_true rfl, Nat.le_of_ble_eq_true rfl⟩) hS (bv_xout hh hlocks (Nat.le_of_ble_eq_true rfl) (Nat.le_of_ble_eq_true rfl) (fun k_1 => by have q9 := bv_rb_f (bI_1 k_1); rw [bI_t (bI_1 k_1)]; simp [sp_notices, q9, bv_nb, bv_up_at, bv_vw_10, bv_v0, bv_v1, bv_v2, bv_v3, bv_v9, bv_v11, bv_v12, bv_v13, bv_v14, bv_v15])) (fun H locs k_1 hP hS => ?_)
  have r_1 := bv_rb_t (Decidable.not_not.mp (bI_0 k_1))
  obtain ⟨j, hj, ej⟩ := bv_of8 (Decidable.not_not.mp (bI_0 k_1))
  subst ej
  rw [bv_cl hj (by decide)]
  refine lv_astore_n (lv' := [(2, .ref (bv_a G (11 + j))), (0, .ref (bv_a G 0)), (1, .int (nI j))]) hx hb dX2_notices_5 rfl hl (by decide) rfl (fun ls hl => ?_)
  refine lv_aload_n hx hb dX2_notices_6 rfl (lv_at hl 0 rfl) ?_
  refine bv_ci (va_runVN (As := []) (rest := []) ⟨hx, hb, hml, hown, hts⟩ (c_X0_isRented l G (bv_vw S) M z j (by omega)) ⟨va_cnB (host := "BoxVault") 0 hts gX2_notices_X0_isRented_n160 rfl rfl rfl (hE.1 _ (by decide +kernel)) wl0 (by decide +kernel) ⟨Nat.le_of_ble_eq_true rfl, Nat.le_of_ble_eq_true rfl⟩, wl1, wl2⟩ (bv_preV hz hP hK hE hS (ci := 0) (bv_cB G _ _ _ (hj)) rfl rfl) rfl rfl hl.1 rfl (lv_room (Nat.le_of_ble_eq_true rfl)) dX2_notices_7 ⟨Nat.le_of_ble_eq_true rfl, Nat.le_of_ble_eq_true rfl⟩) hS (fun H locs hP hS => ?_)
  refine bv_ifeqB (tgt := 24) hx hb dX2_notices_10 (by decide) (fun c_2 => ?_) (fun c_2 => ?_)
  · have c_2 : ¬ (S 9 j = 1) := c_2
    refine lv_iconst (v := 0) hx hb dX2_notices_24 (by decide) ?_
    have hW : bv_H G (bv_vw (sp_notices S (nI j)).2.2) M z H := by
      rw [show (sp_notices S (nI j)).2.2 = S from by simp [sp_notices, r_1, bv_cl hj (by decide : 8 < 2 ^ 31), c_2, bv_nb, bv_up_at, bv_vw_10, bv_v0, bv_v1, bv_v2, bv_v3, bv_v9, bv_v11, bv_v12, bv_v13, bv_v14, bv_v15]]
      exact hP
    exact bv_xiret hx hb hr hlocks hS (Nat.le_of_ble_eq_true rfl) (Nat.le_of_ble_eq_true rfl) dX2_notices_25 (by simp [sp_notices, r_1, bv_cl hj (by decide : 8 < 2 ^ 31), c_2, bv_nb, bv_up_at, bv_vw_10, bv_v0, bv_v1, bv_v2, bv_v3, bv_v9, bv_v11, bv_v12, bv_v13, bv_v14, bv_v15]) (by simp [sp_notices, bv_nt, r_1, bv_cl hj (by decide : 8 < 2 ^ 31), c_2, bv_nb, bv_up_at, bv_vw_10, bv_v0, bv_v1, bv_v2, bv_v3, bv_v9, bv_v11, bv_v12, bv_v13, bv_v14, bv_v15]) hW
  · have c_2 : (S 9 j = 1) := c_2
    refine lv_aload_n hx hb dX2_notices_13 rfl (lv_at hl 0 rfl) ?_
    refine lv_aload_n hx hb dX2_notices_14 rfl (lv_at hl 1 rfl) ?_
    refine bv_get_f (ci := 2) (C := RX2) (T := TX2) (N := 6) hx hb hts hin2 hown hK hP (bv_c0 G _ _ _) rfl 5 (by decide) wl3 rfl rfl dX2_notices_15 ?_
    refine bv_ci (va_runVN (As := [.int (S 0 0)]) (rest := []) ⟨hx, hb, hml, hown, hts⟩ (c_X0_noticesOn l G (bv_vw S) M z j (S 0 0) (by omega)) ⟨va_cnB (host := "BoxVault") 1 hts gX2_notices_X0_noticesOn_n99 rfl rfl rfl (hE.1 _ (by decide +kernel)) wl0 (by decide +kernel) ⟨Nat.le_of_ble_eq_true rfl, Nat.le_of_ble_eq_true rfl⟩, wl4, wl5⟩ (bv_preV hz hP hK hE hS (ci := 0) (bv_cB G _ _ _ (hj)) rfl rfl) rfl rfl hl.1 rfl (lv_room (Nat.le_of_ble_eq_true rfl)) dX2_notices_18 ⟨Nat.le_of_ble_eq_true rfl, Nat.le_of_ble_eq_true rfl⟩) hS (fun H locs hP hS => ?_)
    refine bv_eqi (y := bv_nt S j) (bv_I_vn hI hn hj (by assumption)) ?_
    refine lv_goto (tgt := 25) hx hb dX2_notices_21 (by decide) ?_
    have hW : bv_H G (bv_vw (sp_notices S (nI j)).2.2) M z H := by
      rw [show (sp_notices S (nI j)).2.2 = S from by simp [sp_notices, r_1, bv_cl hj (by decide : 8 < 2 ^ 31), c_2, bv_nb, bv_up_at, bv_vw_10, bv_v0, bv_v1, bv_v2, bv_v3, bv_v9, bv_v11, bv_v12, bv_v13, bv_v14, bv_v15]]
      exact hP
    exact bv_xiret hx hb hr hlocks hS (Nat.le_of_ble_eq_true rfl) (Nat.le_of_ble_eq_true rfl) dX2_notices_25 (by simp [sp_notices, r_1, bv_cl hj (by decide : 8 < 2 ^ 31), c_2, bv_nb, bv_up_at, bv_vw_10, bv_v0, bv_v1, bv_v2, bv_v3, bv_v9, bv_v11, bv_v12, bv_v13, bv_v14, bv_v15]) (by simp [sp_notices, bv_nt, r_1, bv_cl hj (by decide : 8 < 2 ^ 31), c_2, bv_nb, bv_up_at, bv_vw_10, bv_v0, bv_v1, bv_v2, bv_v3, bv_v9, bv_v11, bv_v12, bv_v13, bv_v14, bv_v15]) hW
set_option maxHeartbeats 4000000 in
set_option maxRecDepth 100000 in
theorem c_X2_binding (l : Launch) (hlt : l.stackTraces = false) (G : bv_G) (S M : bv_X) (z : bv_Z) (n : Nat) (p0 : Int32) (hn : n ≤ 1000) (hI : bv_I n S) : bv_Mx l yX2_binding wsX2_binding ({ frames := 7, cells := 1, slots := 6, locals := 104 }) [.ref (bv_a G 0), .int p0] G (bv_vw S) M z ((sp_binding S p0).1) "java/lang/IllegalArgumentException" ((sp_binding S p0).2.1) (bv_vw (sp_binding S p0).2.2) M z := by
  refine vx_ofW (cc := cX2_binding) (maxL := 2) (ret := (some .int)) (by decide) rfl ?_
  intro p e s m args below meth c s₁ B hml hh hv
  obtain ⟨rfl, hz, hP, hK, hE⟩ := hv
  have hx := B.exec
  have hb := B.bytes
  have hr := B.returns
  have hts := atoms_spec (ws := wsX2_binding) B.pre
  have hown : s.vm.findClass RX2 = some m.cls := findClass_of_methodNamed B.named
  have hlocks := B.notSynchronized
  have hS : va_S (bv_A G) s.heap s.heap [] := va_S.rf
  have wl0 := hts (.fieldLink RX2 18 "BoxVault" "orders" "LBoxVault$OrderBook;") (by decide +kernel)
  have wl1 := hts (.initialized RX1) (by decide +kernel)
  have wl2 := hts (.instanceMethod yX1_bindingOn) (by decide +kernel)
  have wl3 := hts (.selects RX1 yX1_bindingOn yX1_bindingOn) (by decide +kernel)
  have hin2 : ∀ w ∈ wsX20, w ∈ wsX2_binding := (fun w h => List.mem_cons_of_mem _ (List.mem_append_left _ (List.mem_append_left _ (List.mem_append_right _ h))))
  have hl := lv_entry ([.ref (bv_a G 0), .int p0]) (n := 2) (Nat.le_of_ble_eq_true rfl)
  rw [lg_entry_eq]
  generalize (lg_sl ([.ref (bv_a G 0), .int p0]) ++ List.replicate (2 - (lg_sl ([.ref (bv_a G 0), .int p0])).length) Slot.unset).toArray = ls at hl ⊢
  have hl : lv_has ls 2 [(0, .ref (bv_a G 0)), (1, .int p0)] := hl
  obtain ⟨cn, hc, ec⟩ := bv_I_cnt hI
  refine lv_iload_n hx hb dX2_binding_0 rfl (lv_at hl 1 rfl) ?_
  refine lv_iconst (v := 0) hx hb dX2_binding_1 (by decide) ?_
  refine lv_bipush (v := 7) hx hb dX2_binding_2 (by decide) ?_
  refine bv_cxv (vx_runS (As := [.int p0, .int 0, .int 7]) (rest := []) ⟨hx, hb, hml, hown, hts⟩ (c_X2_requireRange l hlt G (bv_vw S) M z p0 0 7 ) (va_cwS 3 hts gX2_binding_X2_requireRange rfl rfl rfl (by decide +kernel) ⟨Nat.le_of_ble_eq_true rfl, Nat.le_of_ble_eq_true rfl⟩) (bv_preS hz hP hK hE hS) rfl rfl hl.1 rfl (lv_room (Nat.le_of_ble_eq_true rfl)) dX2_binding_4 ⟨Nat.le_of_ble_eq_true rfl, Nat.le_of_ble_eq_true rfl⟩) hS (bv_xout hh hlocks (Nat.le_of_ble_eq_true rfl) (Nat.le_of_ble_eq_true rfl) (fun k_1 => by have q9 := bv_rb_f (bI_1 k_1); rw [bI_t (bI_1 k_1)]; simp [sp_binding, q9, bv_nb, bv_up_at, bv_vw_10, bv_v0, bv_v1, bv_v2, bv_v3, bv_v9, bv_v11, bv_v12, bv_v13, bv_v14, bv_v15])) (fun H locs k_1 hP hS => ?_)
  have r_1 := bv_rb_t (Decidable.not_not.mp (bI_0 k_1))
  obtain ⟨j, hj, ej⟩ := bv_of8 (Decidable.not_not.mp (bI_0 k_1))
  subst ej
  refine lv_aload_n hx hb dX2_binding_7 rfl (lv_at hl 0 rfl) ?_
  refine bv_get_f (ci := 2) (C := RX2) (T := TX2) (N := 6) hx hb hts hin2 hown hK hP (bv_c0 G _ _ _) rfl 1 (by decide) wl0 rfl rfl dX2_binding_8 ?_
  refine lv_iload_n hx hb dX2_binding_11 rfl (lv_at hl 1 rfl) ?_
  refine bv_ci (va_runVN (As := [.int (nI j)]) (rest := []) ⟨hx, hb, hml, hown, hts⟩ (c_X1_bindingOn l G (bv_vw S) M z (nI j) cn (hc) (ec)) ⟨va_cnB (host := "BoxVault") 1 hts gX2_binding_X1_bindingOn_n111 rfl rfl rfl (hE.1 _ (by decide +kernel)) wl1 (by decide +kernel) ⟨Nat.le_of_ble_eq_true rfl, Nat.le_of_ble_eq_true rfl⟩, wl2, wl3⟩ (bv_preV hz hP hK hE hS (ci := 1) (bv_c2 G _ _ _) rfl rfl) rfl rfl hl.1 rfl (lv_room (Nat.le_of_ble_eq_true rfl)) dX2_binding_12 ⟨Nat.le_of_ble_eq_true rfl, Nat.le_of_ble_eq_true rfl⟩) hS (fun H locs hP hS => ?_)
  refine bv_eqi (y := bv_bd S (nI j)) ((bv_vw_bn S _ cn).trans (bv_bd_c ec hc)) ?_
  have hW : bv_H G (bv_vw (sp_binding S (nI j)).2.2) M z H := by
    rw [show (sp_binding S (nI j)).2.2 = S from by simp [sp_binding, r_1, bv_cl hj (by decide : 8 < 2 ^ 31), bv_nb, bv_up_at, bv_vw_10, bv_v0, bv_v1, bv_v2, bv_v3, bv_v9, bv_v11, bv_v12, bv_v13, bv_v14, bv_v15]]
    exact hP
  exact bv_xiret hx hb hr hlocks hS (Nat.le_of_ble_eq_true rfl) (Nat.le_of_ble_eq_true rfl) dX2_binding_15 (by simp [sp_binding, r_1, bv_cl hj (by decide : 8 < 2 ^ 31), bv_nb, bv_up_at, bv_vw_10, bv_v0, bv_v1, bv_v2, bv_v3, bv_v9, bv_v11, bv_v12, bv_v13, bv_v14, bv_v15]) (by simp [sp_binding, r_1, bv_cl hj (by decide : 8 < 2 ^ 31), bv_nb, bv_up_at, bv_vw_10, bv_v0, bv_v1, bv_v2, bv_v3, bv_v9, bv_v11, bv_v12, bv_v13, bv_v14, bv_v15]) hW
