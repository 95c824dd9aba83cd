set_option maxHeartbeats 4000000 in
set_option maxRecDepth 100000 in
theorem c_X3_drill (l : Launch) (G : bv_G) (S M : bv_X) (z : bv_Z) (n : Nat) (p0 : Int32) (p1 : Int32) (p2 : Int32) (hn : n ≤ 1000) (hI : bv_I n M) : bv_M l yX3_drill wsX3_drill ({ frames := 2, cells := 0, slots := 0, locals := 43 }) [.ref (bv_a G 43), .int p0, .int p1, .int p2] G S M z ((sp_drill M p0 p1 p2).2.1) S ((sp_drill M p0 p1 p2).2.2) ((sp_drill M p0 p1 p2).1, z.2) := by
  refine Met.ofW (cc := cX3_drill) (maxL := 6) (ret := (some .int)) (by decide) rfl ?_
  intro p e s m args below meth c s₁ B hml hv
  obtain ⟨rfl, hz, hP, hK, hE⟩ := hv
  have hx := B.exec
  have hb := B.bytes
  have hr := B.returns
  have hts := atoms_spec (ws := wsX3_drill) B.pre
  have hown : s.vm.findClass RX3 = some m.cls := findClass_of_methodNamed B.named
  have hlocks := B.notSynchronized
  have hS : va_S (bv_A G) s.heap s.heap [] := va_S.rf
  have wl0 := hts (.fieldLink RX3 65 "BoxVaultModel" "thrown" "I") (by decide +kernel)
  have wl1 := hts (.fieldLink RX3 7 "BoxVaultModel" "dead" "[Z") (by decide +kernel)
  have wl2 := hts (.fieldLink RX3 23 "BoxVaultModel" "holder" "[I") (by decide +kernel)
  have wl3 := hts (.fieldLink RX3 35 "BoxVaultModel" "owed" "[I") (by decide +kernel)
  have wl4 := hts (.fieldLink RX3 20 "BoxVaultModel" "state" "[I") (by decide +kernel)
  have wl5 := hts (.fieldLink RX3 56 "BoxVaultModel" "kind" "[I") (by decide +kernel)
  have hin3 : ∀ w ∈ wsX30, w ∈ wsX3_drill := (fun w h => List.mem_cons_of_mem _ (List.mem_append_right _ h))
  have hl := lv_entry ([.ref (bv_a G 43), .int p0, .int p1, .int p2]) (n := 6) (Nat.le_of_ble_eq_true rfl)
  rw [lg_entry_eq]
  generalize (lg_sl ([.ref (bv_a G 43), .int p0, .int p1, .int p2]) ++ List.replicate (6 - (lg_sl ([.ref (bv_a G 43), .int p0, .int p1, .int p2])).length) Slot.unset).toArray = ls at hl ⊢
  have hl : lv_has ls 6 [(0, .ref (bv_a G 43)), (1, .int p0), (2, .int p1), (3, .int p2)] := hl
  obtain ⟨cn, hc, ec⟩ := bv_I_cnt hI
  refine lv_aload_n hx hb dX3_drill_0 rfl (lv_at hl 0 rfl) ?_
  refine lv_iconst (v := 0) hx hb dX3_drill_1 (by decide) ?_
  refine bv_put_f (ci := 3) (C := RX3) (T := TX3) (N := 21) (ty := .int) hx hb hts hin3 tyX3 tyX3_ok nmX3 hown hK hP hS (bv_c43 G _ _ _) rfl 0 (by decide) wl0 rfl rfl rfl rfl rfl (Nat.le_of_ble_eq_true rfl) rfl (bv_sth G _ _ _ _) dX3_drill_2 (fun H locs hP hS => ?_)
  refine lv_iload_n hx hb dX3_drill_5 rfl (lv_at hl 1 rfl) ?_
  refine bv_ci (va_runS (As := [.int p0]) (rest := []) ⟨hx, hb, hml, hown, hts⟩ (c_X3_isBox l G S M (0, z.2) p0 ) (va_cwS 1 hts gX3_drill_X3_isBox rfl rfl rfl (by decide +kernel) ⟨Nat.le_of_ble_eq_true rfl, Nat.le_of_ble_eq_true rfl⟩) (bv_preS hz hP hK hE hS) rfl rfl hl.1 rfl (lv_room (Nat.le_of_ble_eq_true rfl)) dX3_drill_6 ⟨Nat.le_of_ble_eq_true rfl, Nat.le_of_ble_eq_true rfl⟩) hS (fun H locs hP hS => ?_)
  refine bv_ifeqB (tgt := 31) hx hb dX3_drill_9 (by decide) (fun c_1 => ?_) (fun c_1 => ?_)
  · have r_1 := bv_rb_f c_1
    refine lv_aload_n hx hb dX3_drill_31 rfl (lv_at hl 0 rfl) ?_
    refine lv_iconst (v := 1) hx hb dX3_drill_32 (by decide) ?_
    refine bv_ci (va_runV (As := [.int 1]) (rest := []) ⟨hx, hb, hml, hown, hts⟩ (c_X3_fails l G S M (0, z.2) 1 ) (cwV 1 hts gX3_drill_X3_fails rfl rfl rfl (by decide +kernel) ⟨Nat.le_of_ble_eq_true rfl, Nat.le_of_ble_eq_true rfl⟩) (bv_preV hz hP hK hE hS (ci := 3) (bv_c43 G _ _ _) rfl rfl) rfl rfl hl.1 rfl (lv_room (Nat.le_of_ble_eq_true rfl)) dX3_drill_33 ⟨Nat.le_of_ble_eq_true rfl, Nat.le_of_ble_eq_true rfl⟩) hS (fun H locs hP hS => ?_)
    have hW : bv_H G S ((sp_drill M p0 p1 p2).2.2) ((sp_drill M p0 p1 p2).1, z.2) H := by
      rw [show (sp_drill M p0 p1 p2).2.2 = M from by simp [sp_drill, r_1, bv_nb, bv_up_at, bv_fr12, bv_fr13, bv_ko]]
      rw [show (sp_drill M p0 p1 p2).1 = 1 from by simp [sp_drill, r_1, bv_nb, bv_up_at, bv_fr12, bv_fr13, bv_ko]]
      exact hP
    exact bv_iret hx hb hr hlocks hS (Nat.le_of_ble_eq_true rfl) (Nat.le_of_ble_eq_true rfl) dX3_drill_36 (by simp [sp_drill, r_1, bv_nb, bv_up_at, bv_fr12, bv_fr13, bv_ko]) hW
  · have r_1 := bv_rb_t c_1
    obtain ⟨j, hj, ej⟩ := bv_of8 c_1
    subst ej
    obtain ⟨d0, hd0, ed, ed2⟩ := bv_I_hd hI hj
    refine lv_iload_n hx hb dX3_drill_12 rfl (lv_at hl 2 rfl) ?_
    refine bv_ci (va_runS (As := [.int p1]) (rest := []) ⟨hx, hb, hml, hown, hts⟩ (c_X3_isPerson l G S M (0, z.2) p1 ) (va_cwS 1 hts gX3_drill_X3_isPerson rfl rfl rfl (by decide +kernel) ⟨Nat.le_of_ble_eq_true rfl, Nat.le_of_ble_eq_true rfl⟩) (bv_preS hz hP hK hE hS) rfl rfl hl.1 rfl (lv_room (Nat.le_of_ble_eq_true rfl)) dX3_drill_13 ⟨Nat.le_of_ble_eq_true rfl, Nat.le_of_ble_eq_true rfl⟩) hS (fun H locs hP hS => ?_)
    refine bv_ifeqB (tgt := 31) hx hb dX3_drill_16 (by decide) (fun c_2 => ?_) (fun c_2 => ?_)
    · have r_2 := bv_rb_f c_2
      refine lv_aload_n hx hb dX3_drill_31 rfl (lv_at hl 0 rfl) ?_
      refine lv_iconst (v := 1) hx hb dX3_drill_32 (by decide) ?_
      refine bv_ci (va_runV (As := [.int 1]) (rest := []) ⟨hx, hb, hml, hown, hts⟩ (c_X3_fails l G S M (0, z.2) 1 ) (cwV 1 hts gX3_drill_X3_fails rfl rfl rfl (by decide +kernel) ⟨Nat.le_of_ble_eq_true rfl, Nat.le_of_ble_eq_true rfl⟩) (bv_preV hz hP hK hE hS (ci := 3) (bv_c43 G _ _ _) rfl rfl) rfl rfl hl.1 rfl (lv_room (Nat.le_of_ble_eq_true rfl)) dX3_drill_33 ⟨Nat.le_of_ble_eq_true rfl, Nat.le_of_ble_eq_true rfl⟩) hS (fun H locs hP hS => ?_)
      have hW : bv_H G S ((sp_drill M (nI j) p1 p2).2.2) ((sp_drill M (nI j) p1 p2).1, z.2) H := by
        rw [show (sp_drill M (nI j) p1 p2).2.2 = M from by simp [sp_drill, r_1, bv_cl hj (by decide : 8 < 2 ^ 31), ed2, r_2, bv_nb, bv_up_at, bv_fr12, bv_fr13, bv_ko]]
        rw [show (sp_drill M (nI j) p1 p2).1 = 1 from by simp [sp_drill, r_1, bv_cl hj (by decide : 8 < 2 ^ 31), ed2, r_2, bv_nb, bv_up_at, bv_fr12, bv_fr13, bv_ko]]
        exact hP
      exact bv_iret hx hb hr hlocks hS (Nat.le_of_ble_eq_true rfl) (Nat.le_of_ble_eq_true rfl) dX3_drill_36 (by simp [sp_drill, r_1, bv_cl hj (by decide : 8 < 2 ^ 31), ed2, r_2, bv_nb, bv_up_at, bv_fr12, bv_fr13, bv_ko]) hW
    · have r_2 := bv_rb_t c_2
      obtain ⟨q, hq, ej⟩ := bv_of16 c_2
      subst ej
      refine lv_iload_n hx hb dX3_drill_19 rfl (lv_at hl 3 rfl) ?_
      refine bv_ci (va_runS (As := [.int p2]) (rest := []) ⟨hx, hb, hml, hown, hts⟩ (c_X3_isPerson l G S M (0, z.2) p2 ) (va_cwS 1 hts gX3_drill_X3_isPerson rfl rfl rfl (by decide +kernel) ⟨Nat.le_of_ble_eq_true rfl, Nat.le_of_ble_eq_true rfl⟩) (bv_preS hz hP hK hE hS) rfl rfl hl.1 rfl (lv_room (Nat.le_of_ble_eq_true rfl)) dX3_drill_20 ⟨Nat.le_of_ble_eq_true rfl, Nat.le_of_ble_eq_true rfl⟩) hS (fun H locs hP hS => ?_)
      refine bv_ifeqB (tgt := 31) hx hb dX3_drill_23 (by decide) (fun c_3 => ?_) (fun c_3 => ?_)
      · have r_3 := bv_rb_f c_3
        refine lv_aload_n hx hb dX3_drill_31 rfl (lv_at hl 0 rfl) ?_
        refine lv_iconst (v := 1) hx hb dX3_drill_32 (by decide) ?_
        refine bv_ci (va_runV (As := [.int 1]) (rest := []) ⟨hx, hb, hml, hown, hts⟩ (c_X3_fails l G S M (0, z.2) 1 ) (cwV 1 hts gX3_drill_X3_fails rfl rfl rfl (by decide +kernel) ⟨Nat.le_of_ble_eq_true rfl, Nat.le_of_ble_eq_true rfl⟩) (bv_preV hz hP hK hE hS (ci := 3) (bv_c43 G _ _ _) rfl rfl) rfl rfl hl.1 rfl (lv_room (Nat.le_of_ble_eq_true rfl)) dX3_drill_33 ⟨Nat.le_of_ble_eq_true rfl, Nat.le_of_ble_eq_true rfl⟩) hS (fun H locs hP hS => ?_)
        have hW : bv_H G S ((sp_drill M (nI j) (nI q) p2).2.2) ((sp_drill M (nI j) (nI q) p2).1, z.2) H := by
          rw [show (sp_drill M (nI j) (nI q) p2).2.2 = M from by simp [sp_drill, r_1, bv_cl hj (by decide : 8 < 2 ^ 31), ed2, r_2, bv_cl hq (by decide : 16 < 2 ^ 31), r_3, bv_nb, bv_up_at, bv_fr12, bv_fr13, bv_ko]]
          rw [show (sp_drill M (nI j) (nI q) p2).1 = 1 from by simp [sp_drill, r_1, bv_cl hj (by decide : 8 < 2 ^ 31), ed2, r_2, bv_cl hq (by decide : 16 < 2 ^ 31), r_3, bv_nb, bv_up_at, bv_fr12, bv_fr13, bv_ko]]
          exact hP
        exact bv_iret hx hb hr hlocks hS (Nat.le_of_ble_eq_true rfl) (Nat.le_of_ble_eq_true rfl) dX3_drill_36 (by simp [sp_drill, r_1, bv_cl hj (by decide : 8 < 2 ^ 31), ed2, r_2, bv_cl hq (by decide : 16 < 2 ^ 31), r_3, bv_nb, bv_up_at, bv_fr12, bv_fr13, bv_ko]) hW
      · have r_3 := bv_rb_t c_3
        obtain ⟨q2, hq2, ej⟩ := bv_of16 c_3
        subst ej
        refine lv_iload_n hx hb dX3_drill_26 rfl (lv_at hl 2 rfl) ?_
        refine lv_iload_n hx hb dX3_drill_27 rfl (lv_at hl 3 rfl) ?_
        refine lv_icmp_ne (tgt := 37) hx hb dX3_drill_28 (by decide) (fun c_4 => ?_) (fun c_4 => ?_)
        · have c_4 : ¬ (nI q) = (nI q2) := c_4
          refine lv_aload_n hx hb dX3_drill_37 rfl (lv_at hl 0 rfl) ?_
          refine lv_iload_n hx hb dX3_drill_38 rfl (lv_at hl 1 rfl) ?_
          refine bv_ci (va_runV (As := [.int (nI j)]) (rest := []) ⟨hx, hb, hml, hown, hts⟩ (c_X3_binds l G S M (0, z.2) (nI j) cn (hc) (ec)) (cwV 1 hts gX3_drill_X3_binds rfl rfl rfl (by decide +kernel) ⟨Nat.le_of_ble_eq_true rfl, Nat.le_of_ble_eq_true rfl⟩) (bv_preV hz hP hK hE hS (ci := 3) (bv_c43 G _ _ _) rfl rfl) rfl rfl hl.1 rfl (lv_room (Nat.le_of_ble_eq_true rfl)) dX3_drill_39 ⟨Nat.le_of_ble_eq_true rfl, Nat.le_of_ble_eq_true rfl⟩) hS (fun H locs hP hS => ?_)
          refine bv_eqi (y := bv_bd M (nI j)) (bv_bd_c ec hc) ?_
          refine lv_istore (lv' := [(4, .int (bv_bd M (nI j))), (0, .ref (bv_a G 43)), (1, .int (nI j)), (2, .int (nI q)), (3, .int (nI q2))]) hx hb dX3_drill_42 hl (by decide) rfl (fun ls hl => ?_)
          refine lv_aload_n hx hb dX3_drill_44 rfl (lv_at hl 1 rfl) ?_
          refine lv_iload_n hx hb dX3_drill_45 rfl (lv_at hl 2 rfl) ?_
          refine bv_ci (va_runV (As := [.int (nI j)]) (rest := []) ⟨hx, hb, hml, hown, hts⟩ (c_X3_noticesOf l G S M (0, z.2) j (by omega)) (cwV 1 hts gX3_drill_X3_noticesOf rfl rfl rfl (by decide +kernel) ⟨Nat.le_of_ble_eq_true rfl, Nat.le_of_ble_eq_true rfl⟩) (bv_preV hz hP hK hE hS (ci := 3) (bv_c43 G _ _ _) rfl rfl) rfl rfl hl.1 rfl (lv_room (Nat.le_of_ble_eq_true rfl)) dX3_drill_46 ⟨Nat.le_of_ble_eq_true rfl, Nat.le_of_ble_eq_true rfl⟩) hS (fun H locs hP hS => ?_)
          refine lv_iconst (v := 3) hx hb dX3_drill_49 (by decide) ?_
          refine lv_icmp_ne (tgt := 95) hx hb dX3_drill_50 (by decide) (fun c_5 => ?_) (fun c_5 => ?_)
          · have c_5 : ¬ (bv_nt M j) = 3 := c_5
            refine lv_iconst (v := 0) hx hb dX3_drill_95 (by decide) ?_
            refine lv_istore (lv' := [(5, .int 0), (4, .int (bv_bd M (nI j))), (0, .ref (bv_a G 43)), (1, .int (nI j)), (2, .int (nI q)), (3, .int (nI q2))]) hx hb dX3_drill_96 hl (by decide) rfl (fun ls hl => ?_)
            refine lv_iload hx hb dX3_drill_98 (lv_at hl 0 rfl) ?_
            refine lv_if_eq (tgt := 119) hx hb dX3_drill_100 (by decide) (fun c_6 => ?_) (fun c_6 => ?_)
            · have c_6 : (0 : Int32) = 0 := c_6
              refine lv_aload_n hx hb dX3_drill_119 rfl (lv_at hl 2 rfl) ?_
              refine lv_iconst (v := 2) hx hb dX3_drill_120 (by decide) ?_
              refine bv_ci (va_runV (As := [.int 2]) (rest := []) ⟨hx, hb, hml, hown, hts⟩ (c_X3_fails l G S M (0, z.2) 2 ) (cwV 1 hts gX3_drill_X3_fails rfl rfl rfl (by decide +kernel) ⟨Nat.le_of_ble_eq_true rfl, Nat.le_of_ble_eq_true rfl⟩) (bv_preV hz hP hK hE hS (ci := 3) (bv_c43 G _ _ _) rfl rfl) rfl rfl hl.1 rfl (lv_room (Nat.le_of_ble_eq_true rfl)) dX3_drill_121 ⟨Nat.le_of_ble_eq_true rfl, Nat.le_of_ble_eq_true rfl⟩) hS (fun H locs hP hS => ?_)
              have hW : bv_H G S ((sp_drill M (nI j) (nI q) (nI q2)).2.2) ((sp_drill M (nI j) (nI q) (nI q2)).1, z.2) H := by
                rw [show (sp_drill M (nI j) (nI q) (nI q2)).2.2 = M from by simp [sp_drill, r_1, bv_cl hj (by decide : 8 < 2 ^ 31), ed2, r_2, bv_cl hq (by decide : 16 < 2 ^ 31), r_3, bv_cl hq2 (by decide : 16 < 2 ^ 31), c_4, c_5, c_6, bv_nb, bv_up_at, bv_fr12, bv_fr13, bv_ko]]
                rw [show (sp_drill M (nI j) (nI q) (nI q2)).1 = 2 from by simp [sp_drill, r_1, bv_cl hj (by decide : 8 < 2 ^ 31), ed2, r_2, bv_cl hq (by decide : 16 < 2 ^ 31), r_3, bv_cl hq2 (by decide : 16 < 2 ^ 31), c_4, c_5, c_6, bv_nb, bv_up_at, bv_fr12, bv_fr13, bv_ko]]
                exact hP
              exact bv_iret hx hb hr hlocks hS (Nat.le_of_ble_eq_true rfl) (Nat.le_of_ble_eq_true rfl) dX3_drill_124 (by simp [sp_drill, r_1, bv_cl hj (by decide : 8 < 2 ^ 31), ed2, r_2, bv_cl hq (by decide : 16 < 2 ^ 31), r_3, bv_cl hq2 (by decide : 16 < 2 ^ 31), c_4, c_5, c_6, bv_nb, bv_up_at, bv_fr12, bv_fr13, bv_ko]) hW
            · exact absurd c_6 (show ¬ (¬ (0 : Int32) = 0) from by decide)
          · have c_5 : (bv_nt M j) = 3 := c_5
            refine lv_aload_n hx hb dX3_drill_53 rfl (lv_at hl 1 rfl) ?_
            refine bv_get_f (ci := 3) (C := RX3) (T := TX3) (N := 21) hx hb hts hin3 hown hK hP (bv_c43 G _ _ _) rfl 2 (by decide) wl1 rfl rfl dX3_drill_54 ?_
            refine lv_iload_n hx hb dX3_drill_57 rfl (lv_at hl 3 rfl) ?_
            refine bv_zald hx hb hK hP 44 (bv_c44 G _ _ _) q (rfl) (hq) (by decide) dX3_drill_58 ?_
            refine lv_if_ne (tgt := 95) hx hb dX3_drill_59 (by decide) (fun c_7 => ?_) (fun c_7 => ?_)
            · have c_7 : ¬ (M 1 q) = 0 := c_7
              refine lv_iconst (v := 0) hx hb dX3_drill_95 (by decide) ?_
              refine lv_istore (lv' := [(5, .int 0), (4, .int (bv_bd M (nI j))), (0, .ref (bv_a G 43)), (1, .int (nI j)), (2, .int (nI q)), (3, .int (nI q2))]) hx hb dX3_drill_96 hl (by decide) rfl (fun ls hl => ?_)
              refine lv_iload hx hb dX3_drill_98 (lv_at hl 0 rfl) ?_
              refine lv_if_eq (tgt := 119) hx hb dX3_drill_100 (by decide) (fun c_8 => ?_) (fun c_8 => ?_)
              · have c_8 : (0 : Int32) = 0 := c_8
                refine lv_aload_n hx hb dX3_drill_119 rfl (lv_at hl 2 rfl) ?_
                refine lv_iconst (v := 2) hx hb dX3_drill_120 (by decide) ?_
                refine bv_ci (va_runV (As := [.int 2]) (rest := []) ⟨hx, hb, hml, hown, hts⟩ (c_X3_fails l G S M (0, z.2) 2 ) (cwV 1 hts gX3_drill_X3_fails rfl rfl rfl (by decide +kernel) ⟨Nat.le_of_ble_eq_true rfl, Nat.le_of_ble_eq_true rfl⟩) (bv_preV hz hP hK hE hS (ci := 3) (bv_c43 G _ _ _) rfl rfl) rfl rfl hl.1 rfl (lv_room (Nat.le_of_ble_eq_true rfl)) dX3_drill_121 ⟨Nat.le_of_ble_eq_true rfl, Nat.le_of_ble_eq_true rfl⟩) hS (fun H locs hP hS => ?_)
                have hW : bv_H G S ((sp_drill M (nI j) (nI q) (nI q2)).2.2) ((sp_drill M (nI j) (nI q) (nI q2)).1, z.2) H := by
                  rw [show (sp_drill M (nI j) (nI q) (nI q2)).2.2 = M from by simp [sp_drill, r_1, bv_cl hj (by decide : 8 < 2 ^ 31), ed2, r_2, bv_cl hq (by decide : 16 < 2 ^ 31), r_3, bv_cl hq2 (by decide : 16 < 2 ^ 31), c_4, c_5, c_7, c_8, bv_nb, bv_up_at, bv_fr12, bv_fr13, bv_ko]]
                  rw [show (sp_drill M (nI j) (nI q) (nI q2)).1 = 2 from by simp [sp_drill, r_1, bv_cl hj (by decide : 8 < 2 ^ 31), ed2, r_2, bv_cl hq (by decide : 16 < 2 ^ 31), r_3, bv_cl hq2 (by decide : 16 < 2 ^ 31), c_4, c_5, c_7, c_8, bv_nb, bv_up_at, bv_fr12, bv_fr13, bv_ko]]
                  exact hP
                exact bv_iret hx hb hr hlocks hS (Nat.le_of_ble_eq_true rfl) (Nat.le_of_ble_eq_true rfl) dX3_drill_124 (by simp [sp_drill, r_1, bv_cl hj (by decide : 8 < 2 ^ 31), ed2, r_2, bv_cl hq (by decide : 16 < 2 ^ 31), r_3, bv_cl hq2 (by decide : 16 < 2 ^ 31), c_4, c_5, c_7, c_8, bv_nb, bv_up_at, bv_fr12, bv_fr13, bv_ko]) hW
              · exact absurd c_8 (show ¬ (¬ (0 : Int32) = 0) from by decide)
            · have c_7 : (M 1 q) = 0 := c_7
              refine lv_aload_n hx hb dX3_drill_62 rfl (lv_at hl 1 rfl) ?_
              refine bv_get_f (ci := 3) (C := RX3) (T := TX3) (N := 21) hx hb hts hin3 hown hK hP (bv_c43 G _ _ _) rfl 2 (by decide) wl1 rfl rfl dX3_drill_63 ?_
              refine lv_iload_n hx hb dX3_drill_66 rfl (lv_at hl 4 rfl) ?_
              refine bv_zald hx hb hK hP 44 (bv_c44 G _ _ _) q2 (rfl) (hq2) (by decide) dX3_drill_67 ?_
              refine lv_if_ne (tgt := 95) hx hb dX3_drill_68 (by decide) (fun c_9 => ?_) (fun c_9 => ?_)
              · have c_9 : ¬ (M 1 q2) = 0 := c_9
                refine lv_iconst (v := 0) hx hb dX3_drill_95 (by decide) ?_
                refine lv_istore (lv' := [(5, .int 0), (4, .int (bv_bd M (nI j))), (0, .ref (bv_a G 43)), (1, .int (nI j)), (2, .int (nI q)), (3, .int (nI q2))]) hx hb dX3_drill_96 hl (by decide) rfl (fun ls hl => ?_)
                refine lv_iload hx hb dX3_drill_98 (lv_at hl 0 rfl) ?_
                refine lv_if_eq (tgt := 119) hx hb dX3_drill_100 (by decide) (fun c_10 => ?_) (fun c_10 => ?_)
                · have c_10 : (0 : Int32) = 0 := c_10
                  refine lv_aload_n hx hb dX3_drill_119 rfl (lv_at hl 2 rfl) ?_
                  refine lv_iconst (v := 2) hx hb dX3_drill_120 (by decide) ?_
                  refine bv_ci (va_runV (As := [.int 2]) (rest := []) ⟨hx, hb, hml, hown, hts⟩ (c_X3_fails l G S M (0, z.2) 2 ) (cwV 1 hts gX3_drill_X3_fails rfl rfl rfl (by decide +kernel) ⟨Nat.le_of_ble_eq_true rfl, Nat.le_of_ble_eq_true rfl⟩) (bv_preV hz hP hK hE hS (ci := 3) (bv_c43 G _ _ _) rfl rfl) rfl rfl hl.1 rfl (lv_room (Nat.le_of_ble_eq_true rfl)) dX3_drill_121 ⟨Nat.le_of_ble_eq_true rfl, Nat.le_of_ble_eq_true rfl⟩) hS (fun H locs hP hS => ?_)
                  have hW : bv_H G S ((sp_drill M (nI j) (nI q) (nI q2)).2.2) ((sp_drill M (nI j) (nI q) (nI q2)).1, z.2) H := by
                    rw [show (sp_drill M (nI j) (nI q) (nI q2)).2.2 = M from by simp [sp_drill, r_1, bv_cl hj (by decide : 8 < 2 ^ 31), ed2, r_2, bv_cl hq (by decide : 16 < 2 ^ 31), r_3, bv_cl hq2 (by decide : 16 < 2 ^ 31), c_4, c_5, c_7, c_9, c_10, bv_nb, bv_up_at, bv_fr12, bv_fr13, bv_ko]]
                    rw [show (sp_drill M (nI j) (nI q) (nI q2)).1 = 2 from by simp [sp_drill, r_1, bv_cl hj (by decide : 8 < 2 ^ 31), ed2, r_2, bv_cl hq (by decide : 16 < 2 ^ 31), r_3, bv_cl hq2 (by decide : 16 < 2 ^ 31), c_4, c_5, c_7, c_9, c_10, bv_nb, bv_up_at, bv_fr12, bv_fr13, bv_ko]]
                    exact hP
                  exact bv_iret hx hb hr hlocks hS (Nat.le_of_ble_eq_true rfl) (Nat.le_of_ble_eq_true rfl) dX3_drill_124 (by simp [sp_drill, r_1, bv_cl hj (by decide : 8 < 2 ^ 31), ed2, r_2, bv_cl hq (by decide : 16 < 2 ^ 31), r_3, bv_cl hq2 (by decide : 16 < 2 ^ 31), c_4, c_5, c_7, c_9, c_10, bv_nb, bv_up_at, bv_fr12, bv_fr13, bv_ko]) hW
                · exact absurd c_10 (show ¬ (¬ (0 : Int32) = 0) from by decide)
              · have c_9 : (M 1 q2) = 0 := c_9
                refine lv_iload_n hx hb dX3_drill_71 rfl (lv_at hl 3 rfl) ?_
                refine lv_aload_n hx hb dX3_drill_72 rfl (lv_at hl 1 rfl) ?_
                refine bv_get_f (ci := 3) (C := RX3) (T := TX3) (N := 21) hx hb hts hin3 hown hK hP (bv_c43 G _ _ _) rfl 6 (by decide) wl2 rfl rfl dX3_drill_73 ?_
                refine lv_iload_n hx hb dX3_drill_76 rfl (lv_at hl 2 rfl) ?_
                refine bv_iald hx hb hK hP 48 (bv_c48 G _ _ _) j (rfl) (hj) (by decide) dX3_drill_77 ?_
                refine lv_icmp_eq (tgt := 95) hx hb dX3_drill_78 (by decide) (fun c_11 => ?_) (fun c_11 => ?_)
                · have c_11 : (nI q) = (M 10 j) := c_11
                  have c_11t := eq_true c_11
                  refine lv_iconst (v := 0) hx hb dX3_drill_95 (by decide) ?_
                  refine lv_istore (lv' := [(5, .int 0), (4, .int (bv_bd M (nI j))), (0, .ref (bv_a G 43)), (1, .int (nI j)), (2, .int (nI q)), (3, .int (nI q2))]) hx hb dX3_drill_96 hl (by decide) rfl (fun ls hl => ?_)
                  refine lv_iload hx hb dX3_drill_98 (lv_at hl 0 rfl) ?_
                  refine lv_if_eq (tgt := 119) hx hb dX3_drill_100 (by decide) (fun c_12 => ?_) (fun c_12 => ?_)
                  · have c_12 : (0 : Int32) = 0 := c_12
                    refine lv_aload_n hx hb dX3_drill_119 rfl (lv_at hl 2 rfl) ?_
                    refine lv_iconst (v := 2) hx hb dX3_drill_120 (by decide) ?_
                    refine bv_ci (va_runV (As := [.int 2]) (rest := []) ⟨hx, hb, hml, hown, hts⟩ (c_X3_fails l G S M (0, z.2) 2 ) (cwV 1 hts gX3_drill_X3_fails rfl rfl rfl (by decide +kernel) ⟨Nat.le_of_ble_eq_true rfl, Nat.le_of_ble_eq_true rfl⟩) (bv_preV hz hP hK hE hS (ci := 3) (bv_c43 G _ _ _) rfl rfl) rfl rfl hl.1 rfl (lv_room (Nat.le_of_ble_eq_true rfl)) dX3_drill_121 ⟨Nat.le_of_ble_eq_true rfl, Nat.le_of_ble_eq_true rfl⟩) hS (fun H locs hP hS => ?_)
                    have hW : bv_H G S ((sp_drill M (nI j) (nI q) (nI q2)).2.2) ((sp_drill M (nI j) (nI q) (nI q2)).1, z.2) H := by
                      rw [show (sp_drill M (nI j) (nI q) (nI q2)).2.2 = M from by simp [sp_drill, r_1, bv_cl hj (by decide : 8 < 2 ^ 31), ed2, r_2, bv_cl hq (by decide : 16 < 2 ^ 31), r_3, bv_cl hq2 (by decide : 16 < 2 ^ 31), c_4, c_5, c_7, c_9, c_11t, c_12, bv_nb, bv_up_at, bv_fr12, bv_fr13, bv_ko]]
                      rw [show (sp_drill M (nI j) (nI q) (nI q2)).1 = 2 from by simp [sp_drill, r_1, bv_cl hj (by decide : 8 < 2 ^ 31), ed2, r_2, bv_cl hq (by decide : 16 < 2 ^ 31), r_3, bv_cl hq2 (by decide : 16 < 2 ^ 31), c_4, c_5, c_7, c_9, c_11t, c_12, bv_nb, bv_up_at, bv_fr12, bv_fr13, bv_ko]]
                      exact hP
                    exact bv_iret hx hb hr hlocks hS (Nat.le_of_ble_eq_true rfl) (Nat.le_of_ble_eq_true rfl) dX3_drill_124 (by simp [sp_drill, r_1, bv_cl hj (by decide : 8 < 2 ^ 31), ed2, r_2, bv_cl hq (by decide : 16 < 2 ^ 31), r_3, bv_cl hq2 (by decide : 16 < 2 ^ 31), c_4, c_5, c_7, c_9, c_11t, c_12, bv_nb, bv_up_at, bv_fr12, bv_fr13, bv_ko]) hW
                  · exact absurd c_12 (show ¬ (¬ (0 : Int32) = 0) from by decide)
                · have c_11 : ¬ (nI q) = (M 10 j) := c_11
                  refine lv_iload_n hx hb dX3_drill_81 rfl (lv_at hl 4 rfl) ?_
                  refine lv_aload_n hx hb dX3_drill_82 rfl (lv_at hl 1 rfl) ?_
                  refine bv_get_f (ci := 3) (C := RX3) (T := TX3) (N := 21) hx hb hts hin3 hown hK hP (bv_c43 G _ _ _) rfl 6 (by decide) wl2 rfl rfl dX3_drill_83 ?_
                  refine lv_iload_n hx hb dX3_drill_86 rfl (lv_at hl 2 rfl) ?_
                  refine bv_iald hx hb hK hP 48 (bv_c48 G _ _ _) j (rfl) (hj) (by decide) dX3_drill_87 ?_
                  refine lv_icmp_eq (tgt := 95) hx hb dX3_drill_88 (by decide) (fun c_13 => ?_) (fun c_13 => ?_)
                  · have c_13 : (nI q2) = (M 10 j) := c_13
                    have c_13t := eq_true c_13
                    refine lv_iconst (v := 0) hx hb dX3_drill_95 (by decide) ?_
                    refine lv_istore (lv' := [(5, .int 0), (4, .int (bv_bd M (nI j))), (0, .ref (bv_a G 43)), (1, .int (nI j)), (2, .int (nI q)), (3, .int (nI q2))]) hx hb dX3_drill_96 hl (by decide) rfl (fun ls hl => ?_)
                    refine lv_iload hx hb dX3_drill_98 (lv_at hl 0 rfl) ?_
                    refine lv_if_eq (tgt := 119) hx hb dX3_drill_100 (by decide) (fun c_14 => ?_) (fun c_14 => ?_)
                    · have c_14 : (0 : Int32) = 0 := c_14
                      refine lv_aload_n hx hb dX3_drill_119 rfl (lv_at hl 2 rfl) ?_
                      refine lv_iconst (v := 2) hx hb dX3_drill_120 (by decide) ?_
                      refine bv_ci (va_runV (As := [.int 2]) (rest := []) ⟨hx, hb, hml, hown, hts⟩ (c_X3_fails l G S M (0, z.2) 2 ) (cwV 1 hts gX3_drill_X3_fails rfl rfl rfl (by decide +kernel) ⟨Nat.le_of_ble_eq_true rfl, Nat.le_of_ble_eq_true rfl⟩) (bv_preV hz hP hK hE hS (ci := 3) (bv_c43 G _ _ _) rfl rfl) rfl rfl hl.1 rfl (lv_room (Nat.le_of_ble_eq_true rfl)) dX3_drill_121 ⟨Nat.le_of_ble_eq_true rfl, Nat.le_of_ble_eq_true rfl⟩) hS (fun H locs hP hS => ?_)
                      have hW : bv_H G S ((sp_drill M (nI j) (nI q) (nI q2)).2.2) ((sp_drill M (nI j) (nI q) (nI q2)).1, z.2) H := by
                        rw [show (sp_drill M (nI j) (nI q) (nI q2)).2.2 = M from by simp [sp_drill, r_1, bv_cl hj (by decide : 8 < 2 ^ 31), ed2, r_2, bv_cl hq (by decide : 16 < 2 ^ 31), r_3, bv_cl hq2 (by decide : 16 < 2 ^ 31), c_4, c_5, c_7, c_9, c_11, c_13t, c_14, bv_nb, bv_up_at, bv_fr12, bv_fr13, bv_ko]]
                        rw [show (sp_drill M (nI j) (nI q) (nI q2)).1 = 2 from by simp [sp_drill, r_1, bv_cl hj (by decide : 8 < 2 ^ 31), ed2, r_2, bv_cl hq (by decide : 16 < 2 ^ 31), r_3, bv_cl hq2 (by decide : 16 < 2 ^ 31), c_4, c_5, c_7, c_9, c_11, c_13t, c_14, bv_nb, bv_up_at, bv_fr12, bv_fr13, bv_ko]]
                        exact hP
                      exact bv_iret hx hb hr hlocks hS (Nat.le_of_ble_eq_true rfl) (Nat.le_of_ble_eq_true rfl) dX3_drill_124 (by simp [sp_drill, r_1, bv_cl hj (by decide : 8 < 2 ^ 31), ed2, r_2, bv_cl hq (by decide : 16 < 2 ^ 31), r_3, bv_cl hq2 (by decide : 16 < 2 ^ 31), c_4, c_5, c_7, c_9, c_11, c_13t, c_14, bv_nb, bv_up_at, bv_fr12, bv_fr13, bv_ko]) hW
                    · exact absurd c_14 (show ¬ (¬ (0 : Int32) = 0) from by decide)
                  · have c_13 : ¬ (nI q2) = (M 10 j) := c_13
                    refine lv_iconst (v := 1) hx hb dX3_drill_91 (by decide) ?_
                    refine lv_goto (tgt := 96) hx hb dX3_drill_92 (by decide) ?_
                    refine lv_istore (lv' := [(5, .int 1), (4, .int (bv_bd M (nI j))), (0, .ref (bv_a G 43)), (1, .int (nI j)), (2, .int (nI q)), (3, .int (nI q2))]) hx hb dX3_drill_96 hl (by decide) rfl (fun ls hl => ?_)
                    refine lv_iload hx hb dX3_drill_98 (lv_at hl 0 rfl) ?_
                    refine lv_if_eq (tgt := 119) hx hb dX3_drill_100 (by decide) (fun c_15 => ?_) (fun c_15 => ?_)
                    · exact absurd c_15 (show ¬ ((1 : Int32) = 0) from by decide)
                    · have c_15 : ¬ (1 : Int32) = 0 := c_15
                      refine lv_iload hx hb dX3_drill_103 (lv_at hl 1 rfl) ?_
                      refine lv_iconst (v := (-1)) hx hb dX3_drill_105 (by decide) ?_
                      refine lv_icmp_eq (tgt := 125) hx hb dX3_drill_106 (by decide) (fun c_16 => ?_) (fun c_16 => ?_)
                      · have c_16 : (bv_bd M (nI j)) = (-1) := c_16
                        refine lv_aload_n hx hb dX3_drill_125 rfl (lv_at hl 2 rfl) ?_
                        refine bv_get_f (ci := 3) (C := RX3) (T := TX3) (N := 21) hx hb hts hin3 hown hK hP (bv_c43 G _ _ _) rfl 10 (by decide) wl3 rfl rfl dX3_drill_126 ?_
                        refine lv_iload_n hx hb dX3_drill_129 rfl (lv_at hl 3 rfl) ?_
                        refine lv_aload_n hx hb dX3_drill_130 rfl (lv_at hl 2 rfl) ?_
                        refine lv_iload_n hx hb dX3_drill_131 rfl (lv_at hl 3 rfl) ?_
                        refine bv_ci (va_runV (As := [.int (nI j)]) (rest := [.int (nI j), .ref (bv_a G 52)]) ⟨hx, hb, hml, hown, hts⟩ (c_X3_overdue l G S M (0, z.2) j (by omega)) (cwV 1 hts gX3_drill_X3_overdue rfl rfl rfl (by decide +kernel) ⟨Nat.le_of_ble_eq_true rfl, Nat.le_of_ble_eq_true rfl⟩) (bv_preV hz hP hK hE hS (ci := 3) (bv_c43 G _ _ _) rfl rfl) rfl rfl hl.1 rfl (lv_room (Nat.le_of_ble_eq_true rfl)) dX3_drill_132 ⟨Nat.le_of_ble_eq_true rfl, Nat.le_of_ble_eq_true rfl⟩) hS (fun H locs hP hS => ?_)
                        refine bv_iast hx hb hK hP hS 52 (bv_c52 G _ _ _ ) j (rfl) (hj) (by decide) (bv_s52 G _ _ _ _ _) dX3_drill_135 (fun H locs hP hS => ?_)
                        refine lv_aload_n hx hb dX3_drill_136 rfl (lv_at hl 2 rfl) ?_
                        refine bv_get_f (ci := 3) (C := RX3) (T := TX3) (N := 21) hx hb hts hin3 hown hK hP (bv_c43 G _ _ _) rfl 5 (by decide) wl4 rfl rfl dX3_drill_137 ?_
                        refine lv_iload_n hx hb dX3_drill_140 rfl (lv_at hl 3 rfl) ?_
                        refine lv_iconst (v := 2) hx hb dX3_drill_141 (by decide) ?_
                        refine bv_iast hx hb hK hP hS 47 (bv_c47 G _ _ _ ) j (rfl) (hj) (by decide) (bv_s47 G _ _ _ _ _) dX3_drill_142 (fun H locs hP hS => ?_)
                        refine lv_aload_n hx hb dX3_drill_143 rfl (lv_at hl 2 rfl) ?_
                        refine bv_get_f (ci := 3) (C := RX3) (T := TX3) (N := 21) hx hb hts hin3 hown hK hP (bv_c43 G _ _ _) rfl 10 (by decide) wl3 rfl rfl dX3_drill_144 ?_
                        refine lv_iload_n hx hb dX3_drill_147 rfl (lv_at hl 3 rfl) ?_
                        refine bv_iald hx hb hK hP 52 (bv_c52 G _ _ _) j (rfl) (hj) (by decide) dX3_drill_148 ?_
                        have hW : bv_H G S ((sp_drill M (nI j) (nI q) (nI q2)).2.2) ((sp_drill M (nI j) (nI q) (nI q2)).1, z.2) H := by
                          rw [show (sp_drill M (nI j) (nI q) (nI q2)).2.2 = bv_up (bv_up M 12 j (bv_ov (M 0 0) (M 11 j))) 9 j 2 from by simp [sp_drill, r_1, bv_cl hj (by decide : 8 < 2 ^ 31), ed2, r_2, bv_cl hq (by decide : 16 < 2 ^ 31), r_3, bv_cl hq2 (by decide : 16 < 2 ^ 31), c_4, c_5, c_7, c_9, c_11, c_13, c_15, c_16, bv_nb, bv_up_at, bv_fr12, bv_fr13, bv_ko]]
                          rw [show (sp_drill M (nI j) (nI q) (nI q2)).1 = 0 from by simp [sp_drill, r_1, bv_cl hj (by decide : 8 < 2 ^ 31), ed2, r_2, bv_cl hq (by decide : 16 < 2 ^ 31), r_3, bv_cl hq2 (by decide : 16 < 2 ^ 31), c_4, c_5, c_7, c_9, c_11, c_13, c_15, c_16, bv_nb, bv_up_at, bv_fr12, bv_fr13, bv_ko]]
                          exact hP
                        exact bv_iret hx hb hr hlocks hS (Nat.le_of_ble_eq_true rfl) (Nat.le_of_ble_eq_true rfl) dX3_drill_149 (by simp [sp_drill, r_1, bv_cl hj (by decide : 8 < 2 ^ 31), ed2, r_2, bv_cl hq (by decide : 16 < 2 ^ 31), r_3, bv_cl hq2 (by decide : 16 < 2 ^ 31), c_4, c_5, c_7, c_9, c_11, c_13, c_15, c_16, bv_nb, bv_up_at, bv_fr12, bv_fr13, bv_ko]) hW
                      · have c_16 : ¬ (bv_bd M (nI j)) = (-1) := c_16
                        obtain ⟨o, ho, eo, eo2, ea, hh0⟩ := bv_I_bd hI c_16
                        rw [eo] at hl
                        refine lv_aload_n hx hb dX3_drill_109 rfl (lv_at hl 2 rfl) ?_
                        refine bv_get_f (ci := 3) (C := RX3) (T := TX3) (N := 21) hx hb hts hin3 hown hK hP (bv_c43 G _ _ _) rfl 18 (by decide) wl5 rfl rfl dX3_drill_110 ?_
                        refine lv_iload hx hb dX3_drill_113 (lv_at hl 1 rfl) ?_
                        refine bv_iald hx hb hK hP 59 (bv_c59 G _ _ _) o (rfl) (by omega) (by decide) dX3_drill_115 ?_
                        refine lv_if_ne (tgt := 125) hx hb dX3_drill_116 (by decide) (fun c_17 => ?_) (fun c_17 => ?_)
                        · have c_17 : ¬ (M 6 o) = 0 := c_17
                          refine lv_aload_n hx hb dX3_drill_125 rfl (lv_at hl 2 rfl) ?_
                          refine bv_get_f (ci := 3) (C := RX3) (T := TX3) (N := 21) hx hb hts hin3 hown hK hP (bv_c43 G _ _ _) rfl 10 (by decide) wl3 rfl rfl dX3_drill_126 ?_
                          refine lv_iload_n hx hb dX3_drill_129 rfl (lv_at hl 3 rfl) ?_
                          refine lv_aload_n hx hb dX3_drill_130 rfl (lv_at hl 2 rfl) ?_
                          refine lv_iload_n hx hb dX3_drill_131 rfl (lv_at hl 3 rfl) ?_
                          refine bv_ci (va_runV (As := [.int (nI j)]) (rest := [.int (nI j), .ref (bv_a G 52)]) ⟨hx, hb, hml, hown, hts⟩ (c_X3_overdue l G S M (0, z.2) j (by omega)) (cwV 1 hts gX3_drill_X3_overdue rfl rfl rfl (by decide +kernel) ⟨Nat.le_of_ble_eq_true rfl, Nat.le_of_ble_eq_true rfl⟩) (bv_preV hz hP hK hE hS (ci := 3) (bv_c43 G _ _ _) rfl rfl) rfl rfl hl.1 rfl (lv_room (Nat.le_of_ble_eq_true rfl)) dX3_drill_132 ⟨Nat.le_of_ble_eq_true rfl, Nat.le_of_ble_eq_true rfl⟩) hS (fun H locs hP hS => ?_)
                          refine bv_iast hx hb hK hP hS 52 (bv_c52 G _ _ _ ) j (rfl) (hj) (by decide) (bv_s52 G _ _ _ _ _) dX3_drill_135 (fun H locs hP hS => ?_)
                          refine lv_aload_n hx hb dX3_drill_136 rfl (lv_at hl 2 rfl) ?_
                          refine bv_get_f (ci := 3) (C := RX3) (T := TX3) (N := 21) hx hb hts hin3 hown hK hP (bv_c43 G _ _ _) rfl 5 (by decide) wl4 rfl rfl dX3_drill_137 ?_
                          refine lv_iload_n hx hb dX3_drill_140 rfl (lv_at hl 3 rfl) ?_
                          refine lv_iconst (v := 2) hx hb dX3_drill_141 (by decide) ?_
                          refine bv_iast hx hb hK hP hS 47 (bv_c47 G _ _ _ ) j (rfl) (hj) (by decide) (bv_s47 G _ _ _ _ _) dX3_drill_142 (fun H locs hP hS => ?_)
                          refine lv_aload_n hx hb dX3_drill_143 rfl (lv_at hl 2 rfl) ?_
                          refine bv_get_f (ci := 3) (C := RX3) (T := TX3) (N := 21) hx hb hts hin3 hown hK hP (bv_c43 G _ _ _) rfl 10 (by decide) wl3 rfl rfl dX3_drill_144 ?_
                          refine lv_iload_n hx hb dX3_drill_147 rfl (lv_at hl 3 rfl) ?_
                          refine bv_iald hx hb hK hP 52 (bv_c52 G _ _ _) j (rfl) (hj) (by decide) dX3_drill_148 ?_
                          have hW : bv_H G S ((sp_drill M (nI j) (nI q) (nI q2)).2.2) ((sp_drill M (nI j) (nI q) (nI q2)).1, z.2) H := by
                            rw [show (sp_drill M (nI j) (nI q) (nI q2)).2.2 = bv_up (bv_up M 12 j (bv_ov (M 0 0) (M 11 j))) 9 j 2 from by simp [sp_drill, r_1, bv_cl hj (by decide : 8 < 2 ^ 31), ed2, r_2, bv_cl hq (by decide : 16 < 2 ^ 31), r_3, bv_cl hq2 (by decide : 16 < 2 ^ 31), c_4, c_5, c_7, c_9, c_11, c_13, c_15, c_16, eo2, c_17, bv_nb, bv_up_at, bv_fr12, bv_fr13, bv_ko]]
                            rw [show (sp_drill M (nI j) (nI q) (nI q2)).1 = 0 from by simp [sp_drill, r_1, bv_cl hj (by decide : 8 < 2 ^ 31), ed2, r_2, bv_cl hq (by decide : 16 < 2 ^ 31), r_3, bv_cl hq2 (by decide : 16 < 2 ^ 31), c_4, c_5, c_7, c_9, c_11, c_13, c_15, c_16, eo2, c_17, bv_nb, bv_up_at, bv_fr12, bv_fr13, bv_ko]]
                            exact hP
                          exact bv_iret hx hb hr hlocks hS (Nat.le_of_ble_eq_true rfl) (Nat.le_of_ble_eq_true rfl) dX3_drill_149 (by simp [sp_drill, r_1, bv_cl hj (by decide : 8 < 2 ^ 31), ed2, r_2, bv_cl hq (by decide : 16 < 2 ^ 31), r_3, bv_cl hq2 (by decide : 16 < 2 ^ 31), c_4, c_5, c_7, c_9, c_11, c_13, c_15, c_16, eo2, c_17, bv_nb, bv_up_at, bv_fr12, bv_fr13, bv_ko]) hW
                        · have c_17 : (M 6 o) = 0 := c_17
                          refine lv_aload_n hx hb dX3_drill_119 rfl (lv_at hl 2 rfl) ?_
                          refine lv_iconst (v := 2) hx hb dX3_drill_120 (by decide) ?_
                          refine bv_ci (va_runV (As := [.int 2]) (rest := []) ⟨hx, hb, hml, hown, hts⟩ (c_X3_fails l G S M (0, z.2) 2 ) (cwV 1 hts gX3_drill_X3_fails rfl rfl rfl (by decide +kernel) ⟨Nat.le_of_ble_eq_true rfl, Nat.le_of_ble_eq_true rfl⟩) (bv_preV hz hP hK hE hS (ci := 3) (bv_c43 G _ _ _) rfl rfl) rfl rfl hl.1 rfl (lv_room (Nat.le_of_ble_eq_true rfl)) dX3_drill_121 ⟨Nat.le_of_ble_eq_true rfl, Nat.le_of_ble_eq_true rfl⟩) hS (fun H locs hP hS => ?_)
                          have hW : bv_H G S ((sp_drill M (nI j) (nI q) (nI q2)).2.2) ((sp_drill M (nI j) (nI q) (nI q2)).1, z.2) H := by
                            rw [show (sp_drill M (nI j) (nI q) (nI q2)).2.2 = M from by simp [sp_drill, r_1, bv_cl hj (by decide : 8 < 2 ^ 31), ed2, r_2, bv_cl hq (by decide : 16 < 2 ^ 31), r_3, bv_cl hq2 (by decide : 16 < 2 ^ 31), c_4, c_5, c_7, c_9, c_11, c_13, c_15, c_16, eo2, c_17, bv_nb, bv_up_at, bv_fr12, bv_fr13, bv_ko]]
                            rw [show (sp_drill M (nI j) (nI q) (nI q2)).1 = 2 from by simp [sp_drill, r_1, bv_cl hj (by decide : 8 < 2 ^ 31), ed2, r_2, bv_cl hq (by decide : 16 < 2 ^ 31), r_3, bv_cl hq2 (by decide : 16 < 2 ^ 31), c_4, c_5, c_7, c_9, c_11, c_13, c_15, c_16, eo2, c_17, bv_nb, bv_up_at, bv_fr12, bv_fr13, bv_ko]]
                            exact hP
                          exact bv_iret hx hb hr hlocks hS (Nat.le_of_ble_eq_true rfl) (Nat.le_of_ble_eq_true rfl) dX3_drill_124 (by simp [sp_drill, r_1, bv_cl hj (by decide : 8 < 2 ^ 31), ed2, r_2, bv_cl hq (by decide : 16 < 2 ^ 31), r_3, bv_cl hq2 (by decide : 16 < 2 ^ 31), c_4, c_5, c_7, c_9, c_11, c_13, c_15, c_16, eo2, c_17, bv_nb, bv_up_at, bv_fr12, bv_fr13, bv_ko]) hW
        · have c_4 : (nI q) = (nI q2) := c_4
          have c_4t := eq_true c_4
          refine lv_aload_n hx hb dX3_drill_31 rfl (lv_at hl 0 rfl) ?_
          refine lv_iconst (v := 1) hx hb dX3_drill_32 (by decide) ?_
          refine bv_ci (va_runV (As := [.int 1]) (rest := []) ⟨hx, hb, hml, hown, hts⟩ (c_X3_fails l G S M (0, z.2) 1 ) (cwV 1 hts gX3_drill_X3_fails rfl rfl rfl (by decide +kernel) ⟨Nat.le_of_ble_eq_true rfl, Nat.le_of_ble_eq_true rfl⟩) (bv_preV hz hP hK hE hS (ci := 3) (bv_c43 G _ _ _) rfl rfl) rfl rfl hl.1 rfl (lv_room (Nat.le_of_ble_eq_true rfl)) dX3_drill_33 ⟨Nat.le_of_ble_eq_true rfl, Nat.le_of_ble_eq_true rfl⟩) hS (fun H locs hP hS => ?_)
          have hW : bv_H G S ((sp_drill M (nI j) (nI q) (nI q2)).2.2) ((sp_drill M (nI j) (nI q) (nI q2)).1, z.2) H := by
            rw [show (sp_drill M (nI j) (nI q) (nI q2)).2.2 = M from by simp [sp_drill, r_1, bv_cl hj (by decide : 8 < 2 ^ 31), ed2, r_2, bv_cl hq (by decide : 16 < 2 ^ 31), r_3, bv_cl hq2 (by decide : 16 < 2 ^ 31), c_4t, bv_nb, bv_up_at, bv_fr12, bv_fr13, bv_ko]]
            rw [show (sp_drill M (nI j) (nI q) (nI q2)).1 = 1 from by simp [sp_drill, r_1, bv_cl hj (by decide : 8 < 2 ^ 31), ed2, r_2, bv_cl hq (by decide : 16 < 2 ^ 31), r_3, bv_cl hq2 (by decide : 16 < 2 ^ 31), c_4t, bv_nb, bv_up_at, bv_fr12, bv_fr13, bv_ko]]
            exact hP
          exact bv_iret hx hb hr hlocks hS (Nat.le_of_ble_eq_true rfl) (Nat.le_of_ble_eq_true rfl) dX3_drill_36 (by simp [sp_drill, r_1, bv_cl hj (by decide : 8 < 2 ^ 31), ed2, r_2, bv_cl hq (by decide : 16 < 2 ^ 31), r_3, bv_cl hq2 (by decide : 16 < 2 ^ 31), c_4t, bv_nb, bv_up_at, bv_fr12, bv_fr13, bv_ko]) hW
set_option maxHeartbeats 4000000 in
set_option maxRecDepth 100000 in
theorem c_X3_fetch (l : Launch) (G : bv_G) (S M : bv_X) (z : bv_Z) (n : Nat) (p0 : Int32) (p1 : Int32) (hn : n ≤ 1000) (hI : bv_I n M) : bv_M l yX3_fetch wsX3_fetch ({ frames := 2, cells := 0, slots := 0, locals := 45 }) [.ref (bv_a G 43), .int p0, .int p1] G S M z ((sp_fetch M p0 p1).2.1) S ((sp_fetch M p0 p1).2.2) ((sp_fetch M p0 p1).1, z.2) := by
  refine Met.ofW (cc := cX3_fetch) (maxL := 5) (ret := (some .int)) (by decide) rfl ?_
  intro p e s m args below meth c s₁ B hml hv
  obtain ⟨rfl, hz, hP, hK, hE⟩ := hv
  have hx := B.exec
  have hb := B.bytes
  have hr := B.returns
  have hts := atoms_spec (ws := wsX3_fetch) B.pre
  have hown : s.vm.findClass RX3 = some m.cls := findClass_of_methodNamed B.named
  have hlocks := B.notSynchronized
  have hS : va_S (bv_A G) s.heap s.heap [] := va_S.rf
  have wl0 := hts (.fieldLink RX3 65 "BoxVaultModel" "thrown" "I") (by decide +kernel)
  have wl1 := hts (.fieldLink RX3 20 "BoxVaultModel" "state" "[I") (by decide +kernel)
  have wl2 := hts (.fieldLink RX3 7 "BoxVaultModel" "dead" "[Z") (by decide +kernel)
  have wl3 := hts (.fieldLink RX3 23 "BoxVaultModel" "holder" "[I") (by decide +kernel)
  have wl4 := hts (.fieldLink RX3 35 "BoxVaultModel" "owed" "[I") (by decide +kernel)
  have hin3 : ∀ w ∈ wsX30, w ∈ wsX3_fetch := (fun w h => List.mem_cons_of_mem _ (List.mem_append_right _ h))
  have hl := lv_entry ([.ref (bv_a G 43), .int p0, .int p1]) (n := 5) (Nat.le_of_ble_eq_true rfl)
  rw [lg_entry_eq]
  generalize (lg_sl ([.ref (bv_a G 43), .int p0, .int p1]) ++ List.replicate (5 - (lg_sl ([.ref (bv_a G 43), .int p0, .int p1])).length) Slot.unset).toArray = ls at hl ⊢
  have hl : lv_has ls 5 [(0, .ref (bv_a G 43)), (1, .int p0), (2, .int p1)] := hl
  obtain ⟨cn, hc, ec⟩ := bv_I_cnt hI
  have ecn : (M 0 1).toNatClampNeg = cn := by rw [ec]; exact nI_clamp (by omega)
  refine lv_aload_n hx hb dX3_fetch_0 rfl (lv_at hl 0 rfl) ?_
  refine lv_iconst (v := 0) hx hb dX3_fetch_1 (by decide) ?_
  refine bv_put_f (ci := 3) (C := RX3) (T := TX3) (N := 21) (ty := .int) hx hb hts hin3 tyX3 tyX3_ok nmX3 hown hK hP hS (bv_c43 G _ _ _) rfl 0 (by decide) wl0 rfl rfl rfl rfl rfl (Nat.le_of_ble_eq_true rfl) rfl (bv_sth G _ _ _ _) dX3_fetch_2 (fun H locs hP hS => ?_)
  refine lv_iload_n hx hb dX3_fetch_5 rfl (lv_at hl 1 rfl) ?_
  refine bv_ci (va_runS (As := [.int p0]) (rest := []) ⟨hx, hb, hml, hown, hts⟩ (c_X3_isBox l G S M (0, z.2) p0 ) (va_cwS 1 hts gX3_fetch_X3_isBox rfl rfl rfl (by decide +kernel) ⟨Nat.le_of_ble_eq_true rfl, Nat.le_of_ble_eq_true rfl⟩) (bv_preS hz hP hK hE hS) rfl rfl hl.1 rfl (lv_room (Nat.le_of_ble_eq_true rfl)) dX3_fetch_6 ⟨Nat.le_of_ble_eq_true rfl, Nat.le_of_ble_eq_true rfl⟩) hS (fun H locs hP hS => ?_)
  refine bv_ifeqB (tgt := 19) hx hb dX3_fetch_9 (by decide) (fun c_1 => ?_) (fun c_1 => ?_)
  · have r_1 := bv_rb_f c_1
    refine lv_aload_n hx hb dX3_fetch_19 rfl (lv_at hl 0 rfl) ?_
    refine lv_iconst (v := 1) hx hb dX3_fetch_20 (by decide) ?_
    refine bv_ci (va_runV (As := [.int 1]) (rest := []) ⟨hx, hb, hml, hown, hts⟩ (c_X3_fails l G S M (0, z.2) 1 ) (cwV 1 hts gX3_fetch_X3_fails rfl rfl rfl (by decide +kernel) ⟨Nat.le_of_ble_eq_true rfl, Nat.le_of_ble_eq_true rfl⟩) (bv_preV hz hP hK hE hS (ci := 3) (bv_c43 G _ _ _) rfl rfl) rfl rfl hl.1 rfl (lv_room (Nat.le_of_ble_eq_true rfl)) dX3_fetch_21 ⟨Nat.le_of_ble_eq_true rfl, Nat.le_of_ble_eq_true rfl⟩) hS (fun H locs hP hS => ?_)
    have hW : bv_H G S ((sp_fetch M p0 p1).2.2) ((sp_fetch M p0 p1).1, z.2) H := by
      rw [show (sp_fetch M p0 p1).2.2 = M from by simp [sp_fetch, r_1, bv_nb, bv_up_at, bv_fr12, bv_fr13, bv_free, ecn, bv_mf]]
      rw [show (sp_fetch M p0 p1).1 = 1 from by simp [sp_fetch, r_1, bv_nb, bv_up_at, bv_fr12, bv_fr13, bv_free, ecn, bv_mf]]
      exact hP
    exact bv_iret hx hb hr hlocks hS (Nat.le_of_ble_eq_true rfl) (Nat.le_of_ble_eq_true rfl) dX3_fetch_24 (by simp [sp_fetch, r_1, bv_nb, bv_up_at, bv_fr12, bv_fr13, bv_free, ecn, bv_mf]) hW
  · have r_1 := bv_rb_t c_1
    obtain ⟨j, hj, ej⟩ := bv_of8 c_1
    subst ej
    obtain ⟨d0, hd0, ed, ed2⟩ := bv_I_hd hI hj
    refine lv_iload_n hx hb dX3_fetch_12 rfl (lv_at hl 2 rfl) ?_
    refine bv_ci (va_runS (As := [.int p1]) (rest := []) ⟨hx, hb, hml, hown, hts⟩ (c_X3_isPerson l G S M (0, z.2) p1 ) (va_cwS 1 hts gX3_fetch_X3_isPerson rfl rfl rfl (by decide +kernel) ⟨Nat.le_of_ble_eq_true rfl, Nat.le_of_ble_eq_true rfl⟩) (bv_preS hz hP hK hE hS) rfl rfl hl.1 rfl (lv_room (Nat.le_of_ble_eq_true rfl)) dX3_fetch_13 ⟨Nat.le_of_ble_eq_true rfl, Nat.le_of_ble_eq_true rfl⟩) hS (fun H locs hP hS => ?_)
    refine bv_ifneB (tgt := 25) hx hb dX3_fetch_16 (by decide) (fun c_2 => ?_) (fun c_2 => ?_)
    · have r_2 := bv_rb_t c_2
      obtain ⟨q, hq, ej⟩ := bv_of16 c_2
      subst ej
      refine lv_aload_n hx hb dX3_fetch_25 rfl (lv_at hl 0 rfl) ?_
      refine bv_get_f (ci := 3) (C := RX3) (T := TX3) (N := 21) hx hb hts hin3 hown hK hP (bv_c43 G _ _ _) rfl 5 (by decide) wl1 rfl rfl dX3_fetch_26 ?_
      refine lv_iload_n hx hb dX3_fetch_29 rfl (lv_at hl 1 rfl) ?_
      refine bv_iald hx hb hK hP 47 (bv_c47 G _ _ _) j (rfl) (hj) (by decide) dX3_fetch_30 ?_
      refine lv_iconst (v := 2) hx hb dX3_fetch_31 (by decide) ?_
      refine lv_icmp_ne (tgt := 44) hx hb dX3_fetch_32 (by decide) (fun c_3 => ?_) (fun c_3 => ?_)
      · have c_3 : ¬ (M 9 j) = 2 := c_3
        refine lv_aload_n hx hb dX3_fetch_44 rfl (lv_at hl 0 rfl) ?_
        refine lv_iconst (v := 2) hx hb dX3_fetch_45 (by decide) ?_
        refine bv_ci (va_runV (As := [.int 2]) (rest := []) ⟨hx, hb, hml, hown, hts⟩ (c_X3_fails l G S M (0, z.2) 2 ) (cwV 1 hts gX3_fetch_X3_fails rfl rfl rfl (by decide +kernel) ⟨Nat.le_of_ble_eq_true rfl, Nat.le_of_ble_eq_true rfl⟩) (bv_preV hz hP hK hE hS (ci := 3) (bv_c43 G _ _ _) rfl rfl) rfl rfl hl.1 rfl (lv_room (Nat.le_of_ble_eq_true rfl)) dX3_fetch_46 ⟨Nat.le_of_ble_eq_true rfl, Nat.le_of_ble_eq_true rfl⟩) hS (fun H locs hP hS => ?_)
        have hW : bv_H G S ((sp_fetch M (nI j) (nI q)).2.2) ((sp_fetch M (nI j) (nI q)).1, z.2) H := by
          rw [show (sp_fetch M (nI j) (nI q)).2.2 = M from by simp [sp_fetch, r_1, bv_cl hj (by decide : 8 < 2 ^ 31), ed2, r_2, bv_cl hq (by decide : 16 < 2 ^ 31), c_3, bv_nb, bv_up_at, bv_fr12, bv_fr13, bv_free, ecn, bv_mf]]
          rw [show (sp_fetch M (nI j) (nI q)).1 = 2 from by simp [sp_fetch, r_1, bv_cl hj (by decide : 8 < 2 ^ 31), ed2, r_2, bv_cl hq (by decide : 16 < 2 ^ 31), c_3, bv_nb, bv_up_at, bv_fr12, bv_fr13, bv_free, ecn, bv_mf]]
          exact hP
        exact bv_iret hx hb hr hlocks hS (Nat.le_of_ble_eq_true rfl) (Nat.le_of_ble_eq_true rfl) dX3_fetch_49 (by simp [sp_fetch, r_1, bv_cl hj (by decide : 8 < 2 ^ 31), ed2, r_2, bv_cl hq (by decide : 16 < 2 ^ 31), c_3, bv_nb, bv_up_at, bv_fr12, bv_fr13, bv_free, ecn, bv_mf]) hW
      · have c_3 : (M 9 j) = 2 := c_3
        refine lv_aload_n hx hb dX3_fetch_35 rfl (lv_at hl 0 rfl) ?_
        refine bv_get_f (ci := 3) (C := RX3) (T := TX3) (N := 21) hx hb hts hin3 hown hK hP (bv_c43 G _ _ _) rfl 2 (by decide) wl2 rfl rfl dX3_fetch_36 ?_
        refine lv_iload_n hx hb dX3_fetch_39 rfl (lv_at hl 2 rfl) ?_
        refine bv_zald hx hb hK hP 44 (bv_c44 G _ _ _) q (rfl) (hq) (by decide) dX3_fetch_40 ?_
        refine lv_if_eq (tgt := 50) hx hb dX3_fetch_41 (by decide) (fun c_4 => ?_) (fun c_4 => ?_)
        · have c_4 : (M 1 q) = 0 := c_4
          refine lv_aload_n hx hb dX3_fetch_50 rfl (lv_at hl 0 rfl) ?_
          refine lv_iload_n hx hb dX3_fetch_51 rfl (lv_at hl 1 rfl) ?_
          refine bv_ci (va_runV (As := [.int (nI j)]) (rest := []) ⟨hx, hb, hml, hown, hts⟩ (c_X3_binds l G S M (0, z.2) (nI j) cn (hc) (ec)) (cwV 1 hts gX3_fetch_X3_binds rfl rfl rfl (by decide +kernel) ⟨Nat.le_of_ble_eq_true rfl, Nat.le_of_ble_eq_true rfl⟩) (bv_preV hz hP hK hE hS (ci := 3) (bv_c43 G _ _ _) rfl rfl) rfl rfl hl.1 rfl (lv_room (Nat.le_of_ble_eq_true rfl)) dX3_fetch_52 ⟨Nat.le_of_ble_eq_true rfl, Nat.le_of_ble_eq_true rfl⟩) hS (fun H locs hP hS => ?_)
          refine bv_eqi (y := bv_bd M (nI j)) (bv_bd_c ec hc) ?_
          refine lv_istore_n (lv' := [(3, .int (bv_bd M (nI j))), (0, .ref (bv_a G 43)), (1, .int (nI j)), (2, .int (nI q))]) hx hb dX3_fetch_55 rfl hl (by decide) rfl (fun ls hl => ?_)
          refine lv_iload_n hx hb dX3_fetch_56 rfl (lv_at hl 0 rfl) ?_
          refine lv_iconst (v := (-1)) hx hb dX3_fetch_57 (by decide) ?_
          refine lv_icmp_eq (tgt := 70) hx hb dX3_fetch_58 (by decide) (fun c_5 => ?_) (fun c_5 => ?_)
          · have c_5 : (bv_bd M (nI j)) = (-1) := c_5
            refine lv_aload_n hx hb dX3_fetch_70 rfl (lv_at hl 1 rfl) ?_
            refine bv_get_f (ci := 3) (C := RX3) (T := TX3) (N := 21) hx hb hts hin3 hown hK hP (bv_c43 G _ _ _) rfl 2 (by decide) wl2 rfl rfl dX3_fetch_71 ?_
            refine lv_aload_n hx hb dX3_fetch_74 rfl (lv_at hl 1 rfl) ?_
            refine bv_get_f (ci := 3) (C := RX3) (T := TX3) (N := 21) hx hb hts hin3 hown hK hP (bv_c43 G _ _ _) rfl 6 (by decide) wl3 rfl rfl dX3_fetch_75 ?_
            refine lv_iload_n hx hb dX3_fetch_78 rfl (lv_at hl 2 rfl) ?_
            refine bv_iald hx hb hK hP 48 (bv_c48 G _ _ _) j (rfl) (hj) (by decide) dX3_fetch_79 ?_
            refine bv_eqi (y := nI d0) (ed) ?_
            refine bv_zald hx hb hK hP 44 (bv_c44 G _ _ _) d0 (rfl) (hd0) (by decide) dX3_fetch_80 ?_
            refine lv_if_eq (tgt := 98) hx hb dX3_fetch_81 (by decide) (fun c_6 => ?_) (fun c_6 => ?_)
            · have c_6 : (M 1 d0) = 0 := c_6
              refine lv_iload_n hx hb dX3_fetch_98 rfl (lv_at hl 3 rfl) ?_
              refine lv_aload_n hx hb dX3_fetch_99 rfl (lv_at hl 1 rfl) ?_
              refine bv_get_f (ci := 3) (C := RX3) (T := TX3) (N := 21) hx hb hts hin3 hown hK hP (bv_c43 G _ _ _) rfl 6 (by decide) wl3 rfl rfl dX3_fetch_100 ?_
              refine lv_iload_n hx hb dX3_fetch_103 rfl (lv_at hl 2 rfl) ?_
              refine bv_iald hx hb hK hP 48 (bv_c48 G _ _ _) j (rfl) (hj) (by decide) dX3_fetch_104 ?_
              refine lv_icmp_ne (tgt := 112) hx hb dX3_fetch_105 (by decide) (fun c_7 => ?_) (fun c_7 => ?_)
              · have c_7 : ¬ (nI q) = (M 10 j) := c_7
                refine lv_iconst (v := 0) hx hb dX3_fetch_112 (by decide) ?_
                refine lv_istore (lv' := [(4, .int 0), (3, .int (bv_bd M (nI j))), (0, .ref (bv_a G 43)), (1, .int (nI j)), (2, .int (nI q))]) hx hb dX3_fetch_113 hl (by decide) rfl (fun ls hl => ?_)
                refine lv_iload hx hb dX3_fetch_115 (lv_at hl 0 rfl) ?_
                refine lv_if_ne (tgt := 126) hx hb dX3_fetch_117 (by decide) (fun c_8 => ?_) (fun c_8 => ?_)
                · exact absurd c_8 (show ¬ (¬ (0 : Int32) = 0) from by decide)
                · have c_8 : (0 : Int32) = 0 := c_8
                  refine lv_aload_n hx hb dX3_fetch_120 rfl (lv_at hl 2 rfl) ?_
                  refine lv_iconst (v := 2) hx hb dX3_fetch_121 (by decide) ?_
                  refine bv_ci (va_runV (As := [.int 2]) (rest := []) ⟨hx, hb, hml, hown, hts⟩ (c_X3_fails l G S M (0, z.2) 2 ) (cwV 1 hts gX3_fetch_X3_fails rfl rfl rfl (by decide +kernel) ⟨Nat.le_of_ble_eq_true rfl, Nat.le_of_ble_eq_true rfl⟩) (bv_preV hz hP hK hE hS (ci := 3) (bv_c43 G _ _ _) rfl rfl) rfl rfl hl.1 rfl (lv_room (Nat.le_of_ble_eq_true rfl)) dX3_fetch_122 ⟨Nat.le_of_ble_eq_true rfl, Nat.le_of_ble_eq_true rfl⟩) hS (fun H locs hP hS => ?_)
                  have hW : bv_H G S ((sp_fetch M (nI j) (nI q)).2.2) ((sp_fetch M (nI j) (nI q)).1, z.2) H := by
                    rw [show (sp_fetch M (nI j) (nI q)).2.2 = M from by simp [sp_fetch, r_1, bv_cl hj (by decide : 8 < 2 ^ 31), ed2, r_2, bv_cl hq (by decide : 16 < 2 ^ 31), c_3, c_4, c_5, c_6, c_7, c_8, bv_nb, bv_up_at, bv_fr12, bv_fr13, bv_free, ecn, bv_mf]]
                    rw [show (sp_fetch M (nI j) (nI q)).1 = 2 from by simp [sp_fetch, r_1, bv_cl hj (by decide : 8 < 2 ^ 31), ed2, r_2, bv_cl hq (by decide : 16 < 2 ^ 31), c_3, c_4, c_5, c_6, c_7, c_8, bv_nb, bv_up_at, bv_fr12, bv_fr13, bv_free, ecn, bv_mf]]
                    exact hP
                  exact bv_iret hx hb hr hlocks hS (Nat.le_of_ble_eq_true rfl) (Nat.le_of_ble_eq_true rfl) dX3_fetch_125 (by simp [sp_fetch, r_1, bv_cl hj (by decide : 8 < 2 ^ 31), ed2, r_2, bv_cl hq (by decide : 16 < 2 ^ 31), c_3, c_4, c_5, c_6, c_7, c_8, bv_nb, bv_up_at, bv_fr12, bv_fr13, bv_free, ecn, bv_mf]) hW
              · have c_7 : (nI q) = (M 10 j) := c_7
                have c_7t := eq_true c_7
                refine lv_iconst (v := 1) hx hb dX3_fetch_108 (by decide) ?_
                refine lv_goto (tgt := 113) hx hb dX3_fetch_109 (by decide) ?_
                refine lv_istore (lv' := [(4, .int 1), (3, .int (bv_bd M (nI j))), (0, .ref (bv_a G 43)), (1, .int (nI j)), (2, .int (nI q))]) hx hb dX3_fetch_113 hl (by decide) rfl (fun ls hl => ?_)
                refine lv_iload hx hb dX3_fetch_115 (lv_at hl 0 rfl) ?_
                refine lv_if_ne (tgt := 126) hx hb dX3_fetch_117 (by decide) (fun c_9 => ?_) (fun c_9 => ?_)
                · have c_9 : ¬ (1 : Int32) = 0 := c_9
                  refine lv_aload_n hx hb dX3_fetch_126 rfl (lv_at hl 2 rfl) ?_
                  refine lv_iload_n hx hb dX3_fetch_127 rfl (lv_at hl 3 rfl) ?_
                  refine bv_cv (va_runV (As := [.int (nI j)]) (rest := []) ⟨hx, hb, hml, hown, hts⟩ (c_X3_frees l G S M (0, z.2) j cn (by omega) (hc) (ec) (fun i hi => bv_I_holds hI hi)) (cwV 1 hts gX3_fetch_X3_frees rfl rfl rfl (by decide +kernel) ⟨Nat.le_of_ble_eq_true rfl, Nat.le_of_ble_eq_true rfl⟩) (bv_preV hz hP hK hE hS (ci := 3) (bv_c43 G _ _ _) rfl rfl) rfl rfl hl.1 rfl (lv_room (Nat.le_of_ble_eq_true rfl)) dX3_fetch_128 ⟨Nat.le_of_ble_eq_true rfl, Nat.le_of_ble_eq_true rfl⟩) hS (fun H locs hP hS => ?_)
                  refine lv_aload_n hx hb dX3_fetch_131 rfl (lv_at hl 2 rfl) ?_
                  refine bv_get_f (ci := 3) (C := RX3) (T := TX3) (N := 21) hx hb hts hin3 hown hK hP (bv_c43 G _ _ _) rfl 10 (by decide) wl4 rfl rfl dX3_fetch_132 ?_
                  refine lv_iload_n hx hb dX3_fetch_135 rfl (lv_at hl 3 rfl) ?_
                  refine bv_iald hx hb hK hP 52 (bv_c52 G _ _ _) j (rfl) (hj) (by decide) dX3_fetch_136 ?_
                  have hW : bv_H G S ((sp_fetch M (nI j) (nI q)).2.2) ((sp_fetch M (nI j) (nI q)).1, z.2) H := by
                    rw [show (sp_fetch M (nI j) (nI q)).2.2 = bv_fr (bv_up (bv_up M 9 j 0) 15 j 0) (nI j) cn from by simp [sp_fetch, r_1, bv_cl hj (by decide : 8 < 2 ^ 31), ed2, r_2, bv_cl hq (by decide : 16 < 2 ^ 31), c_3, c_4, c_5, c_6, c_7t, c_9, bv_nb, bv_up_at, bv_fr12, bv_fr13, bv_free, ecn, bv_mf]]
                    rw [show (sp_fetch M (nI j) (nI q)).1 = 0 from by simp [sp_fetch, r_1, bv_cl hj (by decide : 8 < 2 ^ 31), ed2, r_2, bv_cl hq (by decide : 16 < 2 ^ 31), c_3, c_4, c_5, c_6, c_7t, c_9, bv_nb, bv_up_at, bv_fr12, bv_fr13, bv_free, ecn, bv_mf]]
                    exact hP
                  exact bv_iret hx hb hr hlocks hS (Nat.le_of_ble_eq_true rfl) (Nat.le_of_ble_eq_true rfl) dX3_fetch_137 (by simp [sp_fetch, r_1, bv_cl hj (by decide : 8 < 2 ^ 31), ed2, r_2, bv_cl hq (by decide : 16 < 2 ^ 31), c_3, c_4, c_5, c_6, c_7t, c_9, bv_nb, bv_up_at, bv_fr12, bv_fr13, bv_free, ecn, bv_mf]) hW
                · exact absurd c_9 (show ¬ ((1 : Int32) = 0) from by decide)
            · have c_6 : ¬ (M 1 d0) = 0 := c_6
              refine lv_aload_n hx hb dX3_fetch_84 rfl (lv_at hl 1 rfl) ?_
              refine lv_iload_n hx hb dX3_fetch_85 rfl (lv_at hl 3 rfl) ?_
              refine lv_aload_n hx hb dX3_fetch_86 rfl (lv_at hl 1 rfl) ?_
              refine bv_get_f (ci := 3) (C := RX3) (T := TX3) (N := 21) hx hb hts hin3 hown hK hP (bv_c43 G _ _ _) rfl 6 (by decide) wl3 rfl rfl dX3_fetch_87 ?_
              refine lv_iload_n hx hb dX3_fetch_90 rfl (lv_at hl 2 rfl) ?_
              refine bv_iald hx hb hK hP 48 (bv_c48 G _ _ _) j (rfl) (hj) (by decide) dX3_fetch_91 ?_
              refine bv_eqi (y := nI d0) (ed) ?_
              refine bv_ci (va_runV (As := [.int (nI q), .int (nI d0)]) (rest := []) ⟨hx, hb, hml, hown, hts⟩ (c_X3_isHeir l G S M (0, z.2) q d0 (by omega) (by omega)) (cwV 2 hts gX3_fetch_X3_isHeir rfl rfl rfl (by decide +kernel) ⟨Nat.le_of_ble_eq_true rfl, Nat.le_of_ble_eq_true rfl⟩) (bv_preV hz hP hK hE hS (ci := 3) (bv_c43 G _ _ _) rfl rfl) rfl rfl hl.1 rfl (lv_room (Nat.le_of_ble_eq_true rfl)) dX3_fetch_92 ⟨Nat.le_of_ble_eq_true rfl, Nat.le_of_ble_eq_true rfl⟩) hS (fun H locs hP hS => ?_)
              refine lv_goto (tgt := 113) hx hb dX3_fetch_95 (by decide) ?_
              refine lv_istore (lv' := [(4, .int (bI (bv_hr M q d0))), (3, .int (bv_bd M (nI j))), (0, .ref (bv_a G 43)), (1, .int (nI j)), (2, .int (nI q))]) hx hb dX3_fetch_113 hl (by decide) rfl (fun ls hl => ?_)
              refine lv_iload hx hb dX3_fetch_115 (lv_at hl 0 rfl) ?_
              refine bv_ifneB (tgt := 126) hx hb dX3_fetch_117 (by decide) (fun c_10 => ?_) (fun c_10 => ?_)
              · have c_10t := eq_true c_10
                refine lv_aload_n hx hb dX3_fetch_126 rfl (lv_at hl 2 rfl) ?_
                refine lv_iload_n hx hb dX3_fetch_127 rfl (lv_at hl 3 rfl) ?_
                refine bv_cv (va_runV (As := [.int (nI j)]) (rest := []) ⟨hx, hb, hml, hown, hts⟩ (c_X3_frees l G S M (0, z.2) j cn (by omega) (hc) (ec) (fun i hi => bv_I_holds hI hi)) (cwV 1 hts gX3_fetch_X3_frees rfl rfl rfl (by decide +kernel) ⟨Nat.le_of_ble_eq_true rfl, Nat.le_of_ble_eq_true rfl⟩) (bv_preV hz hP hK hE hS (ci := 3) (bv_c43 G _ _ _) rfl rfl) rfl rfl hl.1 rfl (lv_room (Nat.le_of_ble_eq_true rfl)) dX3_fetch_128 ⟨Nat.le_of_ble_eq_true rfl, Nat.le_of_ble_eq_true rfl⟩) hS (fun H locs hP hS => ?_)
                refine lv_aload_n hx hb dX3_fetch_131 rfl (lv_at hl 2 rfl) ?_
                refine bv_get_f (ci := 3) (C := RX3) (T := TX3) (N := 21) hx hb hts hin3 hown hK hP (bv_c43 G _ _ _) rfl 10 (by decide) wl4 rfl rfl dX3_fetch_132 ?_
                refine lv_iload_n hx hb dX3_fetch_135 rfl (lv_at hl 3 rfl) ?_
                refine bv_iald hx hb hK hP 52 (bv_c52 G _ _ _) j (rfl) (hj) (by decide) dX3_fetch_136 ?_
                have hW : bv_H G S ((sp_fetch M (nI j) (nI q)).2.2) ((sp_fetch M (nI j) (nI q)).1, z.2) H := by
                  rw [show (sp_fetch M (nI j) (nI q)).2.2 = bv_fr (bv_up (bv_up M 9 j 0) 15 j 0) (nI j) cn from by simp [sp_fetch, r_1, bv_cl hj (by decide : 8 < 2 ^ 31), ed2, r_2, bv_cl hq (by decide : 16 < 2 ^ 31), c_3, c_4, c_5, c_6, c_10t, bv_nb, bv_up_at, bv_fr12, bv_fr13, bv_free, ecn, bv_mf]]
                  rw [show (sp_fetch M (nI j) (nI q)).1 = 0 from by simp [sp_fetch, r_1, bv_cl hj (by decide : 8 < 2 ^ 31), ed2, r_2, bv_cl hq (by decide : 16 < 2 ^ 31), c_3, c_4, c_5, c_6, c_10t, bv_nb, bv_up_at, bv_fr12, bv_fr13, bv_free, ecn, bv_mf]]
                  exact hP
                exact bv_iret hx hb hr hlocks hS (Nat.le_of_ble_eq_true rfl) (Nat.le_of_ble_eq_true rfl) dX3_fetch_137 (by simp [sp_fetch, r_1, bv_cl hj (by decide : 8 < 2 ^ 31), ed2, r_2, bv_cl hq (by decide : 16 < 2 ^ 31), c_3, c_4, c_5, c_6, c_10t, bv_nb, bv_up_at, bv_fr12, bv_fr13, bv_free, ecn, bv_mf]) hW
              · have c_10t := eq_false c_10
                refine lv_aload_n hx hb dX3_fetch_120 rfl (lv_at hl 2 rfl) ?_
                refine lv_iconst (v := 2) hx hb dX3_fetch_121 (by decide) ?_
                refine bv_ci (va_runV (As := [.int 2]) (rest := []) ⟨hx, hb, hml, hown, hts⟩ (c_X3_fails l G S M (0, z.2) 2 ) (cwV 1 hts gX3_fetch_X3_fails rfl rfl rfl (by decide +kernel) ⟨Nat.le_of_ble_eq_true rfl, Nat.le_of_ble_eq_true rfl⟩) (bv_preV hz hP hK hE hS (ci := 3) (bv_c43 G _ _ _) rfl rfl) rfl rfl hl.1 rfl (lv_room (Nat.le_of_ble_eq_true rfl)) dX3_fetch_122 ⟨Nat.le_of_ble_eq_true rfl, Nat.le_of_ble_eq_true rfl⟩) hS (fun H locs hP hS => ?_)
                have hW : bv_H G S ((sp_fetch M (nI j) (nI q)).2.2) ((sp_fetch M (nI j) (nI q)).1, z.2) H := by
                  rw [show (sp_fetch M (nI j) (nI q)).2.2 = M from by simp [sp_fetch, r_1, bv_cl hj (by decide : 8 < 2 ^ 31), ed2, r_2, bv_cl hq (by decide : 16 < 2 ^ 31), c_3, c_4, c_5, c_6, c_10t, bv_nb, bv_up_at, bv_fr12, bv_fr13, bv_free, ecn, bv_mf]]
                  rw [show (sp_fetch M (nI j) (nI q)).1 = 2 from by simp [sp_fetch, r_1, bv_cl hj (by decide : 8 < 2 ^ 31), ed2, r_2, bv_cl hq (by decide : 16 < 2 ^ 31), c_3, c_4, c_5, c_6, c_10t, bv_nb, bv_up_at, bv_fr12, bv_fr13, bv_free, ecn, bv_mf]]
                  exact hP
                exact bv_iret hx hb hr hlocks hS (Nat.le_of_ble_eq_true rfl) (Nat.le_of_ble_eq_true rfl) dX3_fetch_125 (by simp [sp_fetch, r_1, bv_cl hj (by decide : 8 < 2 ^ 31), ed2, r_2, bv_cl hq (by decide : 16 < 2 ^ 31), c_3, c_4, c_5, c_6, c_10t, bv_nb, bv_up_at, bv_fr12, bv_fr13, bv_free, ecn, bv_mf]) hW
          · have c_5 : ¬ (bv_bd M (nI j)) = (-1) := c_5
            obtain ⟨o, ho, eo, eo2, ea, hh0⟩ := bv_I_bd hI c_5
            rw [eo] at hl
            refine lv_aload_n hx hb dX3_fetch_61 rfl (lv_at hl 1 rfl) ?_
            refine lv_iload_n hx hb dX3_fetch_62 rfl (lv_at hl 0 rfl) ?_
            refine lv_iload_n hx hb dX3_fetch_63 rfl (lv_at hl 3 rfl) ?_
            refine bv_ci (va_runV (As := [.int (nI o), .int (nI q)]) (rest := []) ⟨hx, hb, hml, hown, hts⟩ (c_X3_isOrdered l G S M (0, z.2) o j q d0 (ho) (hj) (ea) (hd0) (ed) (ed2) (by omega)) (cwV 2 hts gX3_fetch_X3_isOrdered rfl rfl rfl (by decide +kernel) ⟨Nat.le_of_ble_eq_true rfl, Nat.le_of_ble_eq_true rfl⟩) (bv_preV hz hP hK hE hS (ci := 3) (bv_c43 G _ _ _) rfl rfl) rfl rfl hl.1 rfl (lv_room (Nat.le_of_ble_eq_true rfl)) dX3_fetch_64 ⟨Nat.le_of_ble_eq_true rfl, Nat.le_of_ble_eq_true rfl⟩) hS (fun H locs hP hS => ?_)
            refine lv_goto (tgt := 113) hx hb dX3_fetch_67 (by decide) ?_
            refine lv_istore (lv' := [(4, .int (bI (bv_od M o j q))), (3, .int (nI o)), (0, .ref (bv_a G 43)), (1, .int (nI j)), (2, .int (nI q))]) hx hb dX3_fetch_113 hl (by decide) rfl (fun ls hl => ?_)
            refine lv_iload hx hb dX3_fetch_115 (lv_at hl 0 rfl) ?_
            refine bv_ifneB (tgt := 126) hx hb dX3_fetch_117 (by decide) (fun c_11 => ?_) (fun c_11 => ?_)
            · have c_11t := eq_true c_11
              refine lv_aload_n hx hb dX3_fetch_126 rfl (lv_at hl 2 rfl) ?_
              refine lv_iload_n hx hb dX3_fetch_127 rfl (lv_at hl 3 rfl) ?_
              refine bv_cv (va_runV (As := [.int (nI j)]) (rest := []) ⟨hx, hb, hml, hown, hts⟩ (c_X3_frees l G S M (0, z.2) j cn (by omega) (hc) (ec) (fun i hi => bv_I_holds hI hi)) (cwV 1 hts gX3_fetch_X3_frees rfl rfl rfl (by decide +kernel) ⟨Nat.le_of_ble_eq_true rfl, Nat.le_of_ble_eq_true rfl⟩) (bv_preV hz hP hK hE hS (ci := 3) (bv_c43 G _ _ _) rfl rfl) rfl rfl hl.1 rfl (lv_room (Nat.le_of_ble_eq_true rfl)) dX3_fetch_128 ⟨Nat.le_of_ble_eq_true rfl, Nat.le_of_ble_eq_true rfl⟩) hS (fun H locs hP hS => ?_)
              refine lv_aload_n hx hb dX3_fetch_131 rfl (lv_at hl 2 rfl) ?_
              refine bv_get_f (ci := 3) (C := RX3) (T := TX3) (N := 21) hx hb hts hin3 hown hK hP (bv_c43 G _ _ _) rfl 10 (by decide) wl4 rfl rfl dX3_fetch_132 ?_
              refine lv_iload_n hx hb dX3_fetch_135 rfl (lv_at hl 3 rfl) ?_
              refine bv_iald hx hb hK hP 52 (bv_c52 G _ _ _) j (rfl) (hj) (by decide) dX3_fetch_136 ?_
              have hW : bv_H G S ((sp_fetch M (nI j) (nI q)).2.2) ((sp_fetch M (nI j) (nI q)).1, z.2) H := by
                rw [show (sp_fetch M (nI j) (nI q)).2.2 = bv_fr (bv_up (bv_up M 9 j 0) 15 j 0) (nI j) cn from by simp [sp_fetch, r_1, bv_cl hj (by decide : 8 < 2 ^ 31), ed2, r_2, bv_cl hq (by decide : 16 < 2 ^ 31), c_3, c_4, c_5, eo2, c_11t, bv_nb, bv_up_at, bv_fr12, bv_fr13, bv_free, ecn, bv_mf]]
                rw [show (sp_fetch M (nI j) (nI q)).1 = 0 from by simp [sp_fetch, r_1, bv_cl hj (by decide : 8 < 2 ^ 31), ed2, r_2, bv_cl hq (by decide : 16 < 2 ^ 31), c_3, c_4, c_5, eo2, c_11t, bv_nb, bv_up_at, bv_fr12, bv_fr13, bv_free, ecn, bv_mf]]
                exact hP
              exact bv_iret hx hb hr hlocks hS (Nat.le_of_ble_eq_true rfl) (Nat.le_of_ble_eq_true rfl) dX3_fetch_137 (by simp [sp_fetch, r_1, bv_cl hj (by decide : 8 < 2 ^ 31), ed2, r_2, bv_cl hq (by decide : 16 < 2 ^ 31), c_3, c_4, c_5, eo2, c_11t, bv_nb, bv_up_at, bv_fr12, bv_fr13, bv_free, ecn, bv_mf]) hW
            · have c_11t := eq_false c_11
              refine lv_aload_n hx hb dX3_fetch_120 rfl (lv_at hl 2 rfl) ?_
              refine lv_iconst (v := 2) hx hb dX3_fetch_121 (by decide) ?_
              refine bv_ci (va_runV (As := [.int 2]) (rest := []) ⟨hx, hb, hml, hown, hts⟩ (c_X3_fails l G S M (0, z.2) 2 ) (cwV 1 hts gX3_fetch_X3_fails rfl rfl rfl (by decide +kernel) ⟨Nat.le_of_ble_eq_true rfl, Nat.le_of_ble_eq_true rfl⟩) (bv_preV hz hP hK hE hS (ci := 3) (bv_c43 G _ _ _) rfl rfl) rfl rfl hl.1 rfl (lv_room (Nat.le_of_ble_eq_true rfl)) dX3_fetch_122 ⟨Nat.le_of_ble_eq_true rfl, Nat.le_of_ble_eq_true rfl⟩) hS (fun H locs hP hS => ?_)
              have hW : bv_H G S ((sp_fetch M (nI j) (nI q)).2.2) ((sp_fetch M (nI j) (nI q)).1, z.2) H := by
                rw [show (sp_fetch M (nI j) (nI q)).2.2 = M from by simp [sp_fetch, r_1, bv_cl hj (by decide : 8 < 2 ^ 31), ed2, r_2, bv_cl hq (by decide : 16 < 2 ^ 31), c_3, c_4, c_5, eo2, c_11t, bv_nb, bv_up_at, bv_fr12, bv_fr13, bv_free, ecn, bv_mf]]
                rw [show (sp_fetch M (nI j) (nI q)).1 = 2 from by simp [sp_fetch, r_1, bv_cl hj (by decide : 8 < 2 ^ 31), ed2, r_2, bv_cl hq (by decide : 16 < 2 ^ 31), c_3, c_4, c_5, eo2, c_11t, bv_nb, bv_up_at, bv_fr12, bv_fr13, bv_free, ecn, bv_mf]]
                exact hP
              exact bv_iret hx hb hr hlocks hS (Nat.le_of_ble_eq_true rfl) (Nat.le_of_ble_eq_true rfl) dX3_fetch_125 (by simp [sp_fetch, r_1, bv_cl hj (by decide : 8 < 2 ^ 31), ed2, r_2, bv_cl hq (by decide : 16 < 2 ^ 31), c_3, c_4, c_5, eo2, c_11t, bv_nb, bv_up_at, bv_fr12, bv_fr13, bv_free, ecn, bv_mf]) hW
        · have c_4 : ¬ (M 1 q) = 0 := c_4
          refine lv_aload_n hx hb dX3_fetch_44 rfl (lv_at hl 0 rfl) ?_
          refine lv_iconst (v := 2) hx hb dX3_fetch_45 (by decide) ?_
          refine bv_ci (va_runV (As := [.int 2]) (rest := []) ⟨hx, hb, hml, hown, hts⟩ (c_X3_fails l G S M (0, z.2) 2 ) (cwV 1 hts gX3_fetch_X3_fails rfl rfl rfl (by decide +kernel) ⟨Nat.le_of_ble_eq_true rfl, Nat.le_of_ble_eq_true rfl⟩) (bv_preV hz hP hK hE hS (ci := 3) (bv_c43 G _ _ _) rfl rfl) rfl rfl hl.1 rfl (lv_room (Nat.le_of_ble_eq_true rfl)) dX3_fetch_46 ⟨Nat.le_of_ble_eq_true rfl, Nat.le_of_ble_eq_true rfl⟩) hS (fun H locs hP hS => ?_)
          have hW : bv_H G S ((sp_fetch M (nI j) (nI q)).2.2) ((sp_fetch M (nI j) (nI q)).1, z.2) H := by
            rw [show (sp_fetch M (nI j) (nI q)).2.2 = M from by simp [sp_fetch, r_1, bv_cl hj (by decide : 8 < 2 ^ 31), ed2, r_2, bv_cl hq (by decide : 16 < 2 ^ 31), c_3, c_4, bv_nb, bv_up_at, bv_fr12, bv_fr13, bv_free, ecn, bv_mf]]
            rw [show (sp_fetch M (nI j) (nI q)).1 = 2 from by simp [sp_fetch, r_1, bv_cl hj (by decide : 8 < 2 ^ 31), ed2, r_2, bv_cl hq (by decide : 16 < 2 ^ 31), c_3, c_4, bv_nb, bv_up_at, bv_fr12, bv_fr13, bv_free, ecn, bv_mf]]
            exact hP
          exact bv_iret hx hb hr hlocks hS (Nat.le_of_ble_eq_true rfl) (Nat.le_of_ble_eq_true rfl) dX3_fetch_49 (by simp [sp_fetch, r_1, bv_cl hj (by decide : 8 < 2 ^ 31), ed2, r_2, bv_cl hq (by decide : 16 < 2 ^ 31), c_3, c_4, bv_nb, bv_up_at, bv_fr12, bv_fr13, bv_free, ecn, bv_mf]) hW
    · have r_2 := bv_rb_f c_2
      refine lv_aload_n hx hb dX3_fetch_19 rfl (lv_at hl 0 rfl) ?_
      refine lv_iconst (v := 1) hx hb dX3_fetch_20 (by decide) ?_
      refine bv_ci (va_runV (As := [.int 1]) (rest := []) ⟨hx, hb, hml, hown, hts⟩ (c_X3_fails l G S M (0, z.2) 1 ) (cwV 1 hts gX3_fetch_X3_fails rfl rfl rfl (by decide +kernel) ⟨Nat.le_of_ble_eq_true rfl, Nat.le_of_ble_eq_true rfl⟩) (bv_preV hz hP hK hE hS (ci := 3) (bv_c43 G _ _ _) rfl rfl) rfl rfl hl.1 rfl (lv_room (Nat.le_of_ble_eq_true rfl)) dX3_fetch_21 ⟨Nat.le_of_ble_eq_true rfl, Nat.le_of_ble_eq_true rfl⟩) hS (fun H locs hP hS => ?_)
      have hW : bv_H G S ((sp_fetch M (nI j) p1).2.2) ((sp_fetch M (nI j) p1).1, z.2) H := by
        rw [show (sp_fetch M (nI j) p1).2.2 = M from by simp [sp_fetch, r_1, bv_cl hj (by decide : 8 < 2 ^ 31), ed2, r_2, bv_nb, bv_up_at, bv_fr12, bv_fr13, bv_free, ecn, bv_mf]]
        rw [show (sp_fetch M (nI j) p1).1 = 1 from by simp [sp_fetch, r_1, bv_cl hj (by decide : 8 < 2 ^ 31), ed2, r_2, bv_nb, bv_up_at, bv_fr12, bv_fr13, bv_free, ecn, bv_mf]]
        exact hP
      exact bv_iret hx hb hr hlocks hS (Nat.le_of_ble_eq_true rfl) (Nat.le_of_ble_eq_true rfl) dX3_fetch_24 (by simp [sp_fetch, r_1, bv_cl hj (by decide : 8 < 2 ^ 31), ed2, r_2, bv_nb, bv_up_at, bv_fr12, bv_fr13, bv_free, ecn, bv_mf]) hW
set_option maxHeartbeats 4000000 in
set_option maxRecDepth 100000 in
theorem c_X3_proxy (l : Launch) (G : bv_G) (S M : bv_X) (z : bv_Z) (n : Nat) (p0 : Int32) (p1 : Int32) (p2 : Int32) (p3 : Int32) (hn : n ≤ 1000) (hI : bv_I n M) : bv_M l yX3_proxy wsX3_proxy ({ frames := 2, cells := 0, slots := 0, locals := 42 }) [.ref (bv_a G 43), .int p0, .int p1, .int p2, .int p3] G S M z ((sp_proxy M p0 p1 p2 p3).2.1) S ((sp_proxy M p0 p1 p2 p3).2.2) ((sp_proxy M p0 p1 p2 p3).1, z.2) := by
  refine Met.ofW (cc := cX3_proxy) (maxL := 6) (ret := (some .int)) (by decide) rfl ?_
  intro p e s m args below meth c s₁ B hml hv
  obtain ⟨rfl, hz, hP, hK, hE⟩ := hv
  have hx := B.exec
  have hb := B.bytes
  have hr := B.returns
  have hts := atoms_spec (ws := wsX3_proxy) B.pre
  have hown : s.vm.findClass RX3 = some m.cls := findClass_of_methodNamed B.named
  have hlocks := B.notSynchronized
  have hS : va_S (bv_A G) s.heap s.heap [] := va_S.rf
  have wl0 := hts (.fieldLink RX3 65 "BoxVaultModel" "thrown" "I") (by decide +kernel)
  have wl1 := hts (.constant RX3 106 (99999)) (by decide +kernel)
  have wl2 := hts (.fieldLink RX3 7 "BoxVaultModel" "dead" "[Z") (by decide +kernel)
  have wl3 := hts (.fieldLink RX3 23 "BoxVaultModel" "holder" "[I") (by decide +kernel)
  have wl4 := hts (.fieldLink RX3 38 "BoxVaultModel" "proxies" "[I") (by decide +kernel)
  have wl5 := hts (.fieldLink RX3 41 "BoxVaultModel" "proxy" "[I") (by decide +kernel)
  have wl6 := hts (.fieldLink RX3 44 "BoxVaultModel" "from" "[I") (by decide +kernel)
  have wl7 := hts (.fieldLink RX3 47 "BoxVaultModel" "to" "[I") (by decide +kernel)
  have hin3 : ∀ w ∈ wsX30, w ∈ wsX3_proxy := (fun w h => List.mem_cons_of_mem _ (List.mem_append_right _ h))
  have hl := lv_entry ([.ref (bv_a G 43), .int p0, .int p1, .int p2, .int p3]) (n := 6) (Nat.le_of_ble_eq_true rfl)
  rw [lg_entry_eq]
  generalize (lg_sl ([.ref (bv_a G 43), .int p0, .int p1, .int p2, .int p3]) ++ List.replicate (6 - (lg_sl ([.ref (bv_a G 43), .int p0, .int p1, .int p2, .int p3])).length) Slot.unset).toArray = ls at hl ⊢
  have hl : lv_has ls 6 [(0, .ref (bv_a G 43)), (1, .int p0), (2, .int p1), (3, .int p2), (4, .int p3)] := hl
  refine lv_aload_n hx hb dX3_proxy_0 rfl (lv_at hl 0 rfl) ?_
  refine lv_iconst (v := 0) hx hb dX3_proxy_1 (by decide) ?_
  refine bv_put_f (ci := 3) (C := RX3) (T := TX3) (N := 21) (ty := .int) hx hb hts hin3 tyX3 tyX3_ok nmX3 hown hK hP hS (bv_c43 G _ _ _) rfl 0 (by decide) wl0 rfl rfl rfl rfl rfl (Nat.le_of_ble_eq_true rfl) rfl (bv_sth G _ _ _ _) dX3_proxy_2 (fun H locs hP hS => ?_)
  refine lv_iload_n hx hb dX3_proxy_5 rfl (lv_at hl 1 rfl) ?_
  refine bv_ci (va_runS (As := [.int p0]) (rest := []) ⟨hx, hb, hml, hown, hts⟩ (c_X3_isBox l G S M (0, z.2) p0 ) (va_cwS 1 hts gX3_proxy_X3_isBox rfl rfl rfl (by decide +kernel) ⟨Nat.le_of_ble_eq_true rfl, Nat.le_of_ble_eq_true rfl⟩) (bv_preS hz hP hK hE hS) rfl rfl hl.1 rfl (lv_room (Nat.le_of_ble_eq_true rfl)) dX3_proxy_6 ⟨Nat.le_of_ble_eq_true rfl, Nat.le_of_ble_eq_true rfl⟩) hS (fun H locs hP hS => ?_)
  refine bv_ifeqB (tgt := 40) hx hb dX3_proxy_9 (by decide) (fun c_1 => ?_) (fun c_1 => ?_)
  · have r_1 := bv_rb_f c_1
    refine lv_aload_n hx hb dX3_proxy_40 rfl (lv_at hl 0 rfl) ?_
    refine lv_iconst (v := 1) hx hb dX3_proxy_41 (by decide) ?_
    refine bv_ci (va_runV (As := [.int 1]) (rest := []) ⟨hx, hb, hml, hown, hts⟩ (c_X3_fails l G S M (0, z.2) 1 ) (cwV 1 hts gX3_proxy_X3_fails rfl rfl rfl (by decide +kernel) ⟨Nat.le_of_ble_eq_true rfl, Nat.le_of_ble_eq_true rfl⟩) (bv_preV hz hP hK hE hS (ci := 3) (bv_c43 G _ _ _) rfl rfl) rfl rfl hl.1 rfl (lv_room (Nat.le_of_ble_eq_true rfl)) dX3_proxy_42 ⟨Nat.le_of_ble_eq_true rfl, Nat.le_of_ble_eq_true rfl⟩) hS (fun H locs hP hS => ?_)
    have hW : bv_H G S ((sp_proxy M p0 p1 p2 p3).2.2) ((sp_proxy M p0 p1 p2 p3).1, z.2) H := by
      rw [show (sp_proxy M p0 p1 p2 p3).2.2 = M from by simp [sp_proxy, r_1, bv_nb, bv_up_at, bv_fr12, bv_fr13]]
      rw [show (sp_proxy M p0 p1 p2 p3).1 = 1 from by simp [sp_proxy, r_1, bv_nb, bv_up_at, bv_fr12, bv_fr13]]
      exact hP
    exact bv_iret hx hb hr hlocks hS (Nat.le_of_ble_eq_true rfl) (Nat.le_of_ble_eq_true rfl) dX3_proxy_45 (by simp [sp_proxy, r_1, bv_nb, bv_up_at, bv_fr12, bv_fr13]) hW
  · have r_1 := bv_rb_t c_1
    obtain ⟨j, hj, ej⟩ := bv_of8 c_1
    subst ej
    obtain ⟨d0, hd0, ed, ed2⟩ := bv_I_hd hI hj
    obtain ⟨c5, hc5, ec5⟩ := bv_I_px hI hj
    have ec5n : (M 15 j).toNatClampNeg = c5 := by rw [ec5]; exact nI_clamp (by omega)
    refine lv_iload_n hx hb dX3_proxy_12 rfl (lv_at hl 2 rfl) ?_
    refine bv_ci (va_runS (As := [.int p1]) (rest := []) ⟨hx, hb, hml, hown, hts⟩ (c_X3_isPerson l G S M (0, z.2) p1 ) (va_cwS 1 hts gX3_proxy_X3_isPerson rfl rfl rfl (by decide +kernel) ⟨Nat.le_of_ble_eq_true rfl, Nat.le_of_ble_eq_true rfl⟩) (bv_preS hz hP hK hE hS) rfl rfl hl.1 rfl (lv_room (Nat.le_of_ble_eq_true rfl)) dX3_proxy_13 ⟨Nat.le_of_ble_eq_true rfl, Nat.le_of_ble_eq_true rfl⟩) hS (fun H locs hP hS => ?_)
    refine bv_ifeqB (tgt := 40) hx hb dX3_proxy_16 (by decide) (fun c_2 => ?_) (fun c_2 => ?_)
    · have r_2 := bv_rb_f c_2
      refine lv_aload_n hx hb dX3_proxy_40 rfl (lv_at hl 0 rfl) ?_
      refine lv_iconst (v := 1) hx hb dX3_proxy_41 (by decide) ?_
      refine bv_ci (va_runV (As := [.int 1]) (rest := []) ⟨hx, hb, hml, hown, hts⟩ (c_X3_fails l G S M (0, z.2) 1 ) (cwV 1 hts gX3_proxy_X3_fails rfl rfl rfl (by decide +kernel) ⟨Nat.le_of_ble_eq_true rfl, Nat.le_of_ble_eq_true rfl⟩) (bv_preV hz hP hK hE hS (ci := 3) (bv_c43 G _ _ _) rfl rfl) rfl rfl hl.1 rfl (lv_room (Nat.le_of_ble_eq_true rfl)) dX3_proxy_42 ⟨Nat.le_of_ble_eq_true rfl, Nat.le_of_ble_eq_true rfl⟩) hS (fun H locs hP hS => ?_)
      have hW : bv_H G S ((sp_proxy M (nI j) p1 p2 p3).2.2) ((sp_proxy M (nI j) p1 p2 p3).1, z.2) H := by
        rw [show (sp_proxy M (nI j) p1 p2 p3).2.2 = M from by simp [sp_proxy, r_1, bv_cl hj (by decide : 8 < 2 ^ 31), ed2, ec5n, r_2, bv_nb, bv_up_at, bv_fr12, bv_fr13]]
        rw [show (sp_proxy M (nI j) p1 p2 p3).1 = 1 from by simp [sp_proxy, r_1, bv_cl hj (by decide : 8 < 2 ^ 31), ed2, ec5n, r_2, bv_nb, bv_up_at, bv_fr12, bv_fr13]]
        exact hP
      exact bv_iret hx hb hr hlocks hS (Nat.le_of_ble_eq_true rfl) (Nat.le_of_ble_eq_true rfl) dX3_proxy_45 (by simp [sp_proxy, r_1, bv_cl hj (by decide : 8 < 2 ^ 31), ed2, ec5n, r_2, bv_nb, bv_up_at, bv_fr12, bv_fr13]) hW
    · have r_2 := bv_rb_t c_2
      obtain ⟨q, hq, ej⟩ := bv_of16 c_2
      subst ej
      refine lv_iload_n hx hb dX3_proxy_19 rfl (lv_at hl 3 rfl) ?_
      refine lv_iconst (v := 0) hx hb dX3_proxy_20 (by decide) ?_
      refine lv_ldc hx hb hown wl1 dX3_proxy_21 ?_
      refine bv_ci (va_runS (As := [.int p2, .int 0, .int 99999]) (rest := []) ⟨hx, hb, hml, hown, hts⟩ (c_X3_in l G S M (0, z.2) p2 0 99999 ) (va_cwS 3 hts gX3_proxy_X3_in rfl rfl rfl (by decide +kernel) ⟨Nat.le_of_ble_eq_true rfl, Nat.le_of_ble_eq_true rfl⟩) (bv_preS hz hP hK hE hS) rfl rfl hl.1 rfl (lv_room (Nat.le_of_ble_eq_true rfl)) dX3_proxy_23 ⟨Nat.le_of_ble_eq_true rfl, Nat.le_of_ble_eq_true rfl⟩) hS (fun H locs hP hS => ?_)
      refine bv_ifeqB (tgt := 40) hx hb dX3_proxy_26 (by decide) (fun c_3 => ?_) (fun c_3 => ?_)
      · have r_3 := bv_rb_f c_3
        refine lv_aload_n hx hb dX3_proxy_40 rfl (lv_at hl 0 rfl) ?_
        refine lv_iconst (v := 1) hx hb dX3_proxy_41 (by decide) ?_
        refine bv_ci (va_runV (As := [.int 1]) (rest := []) ⟨hx, hb, hml, hown, hts⟩ (c_X3_fails l G S M (0, z.2) 1 ) (cwV 1 hts gX3_proxy_X3_fails rfl rfl rfl (by decide +kernel) ⟨Nat.le_of_ble_eq_true rfl, Nat.le_of_ble_eq_true rfl⟩) (bv_preV hz hP hK hE hS (ci := 3) (bv_c43 G _ _ _) rfl rfl) rfl rfl hl.1 rfl (lv_room (Nat.le_of_ble_eq_true rfl)) dX3_proxy_42 ⟨Nat.le_of_ble_eq_true rfl, Nat.le_of_ble_eq_true rfl⟩) hS (fun H locs hP hS => ?_)
        have hW : bv_H G S ((sp_proxy M (nI j) (nI q) p2 p3).2.2) ((sp_proxy M (nI j) (nI q) p2 p3).1, z.2) H := by
          rw [show (sp_proxy M (nI j) (nI q) p2 p3).2.2 = M from by simp [sp_proxy, r_1, bv_cl hj (by decide : 8 < 2 ^ 31), ed2, ec5n, r_2, bv_cl hq (by decide : 16 < 2 ^ 31), r_3, bv_nb, bv_up_at, bv_fr12, bv_fr13]]
          rw [show (sp_proxy M (nI j) (nI q) p2 p3).1 = 1 from by simp [sp_proxy, r_1, bv_cl hj (by decide : 8 < 2 ^ 31), ed2, ec5n, r_2, bv_cl hq (by decide : 16 < 2 ^ 31), r_3, bv_nb, bv_up_at, bv_fr12, bv_fr13]]
          exact hP
        exact bv_iret hx hb hr hlocks hS (Nat.le_of_ble_eq_true rfl) (Nat.le_of_ble_eq_true rfl) dX3_proxy_45 (by simp [sp_proxy, r_1, bv_cl hj (by decide : 8 < 2 ^ 31), ed2, ec5n, r_2, bv_cl hq (by decide : 16 < 2 ^ 31), r_3, bv_nb, bv_up_at, bv_fr12, bv_fr13]) hW
      · have r_3 := bv_rb_t c_3
        refine lv_iload hx hb dX3_proxy_29 (lv_at hl 4 rfl) ?_
        refine lv_iload_n hx hb dX3_proxy_31 rfl (lv_at hl 3 rfl) ?_
        refine lv_ldc hx hb hown wl1 dX3_proxy_32 ?_
        refine bv_ci (va_runS (As := [.int p3, .int p2, .int 99999]) (rest := []) ⟨hx, hb, hml, hown, hts⟩ (c_X3_in l G S M (0, z.2) p3 p2 99999 ) (va_cwS 3 hts gX3_proxy_X3_in rfl rfl rfl (by decide +kernel) ⟨Nat.le_of_ble_eq_true rfl, Nat.le_of_ble_eq_true rfl⟩) (bv_preS hz hP hK hE hS) rfl rfl hl.1 rfl (lv_room (Nat.le_of_ble_eq_true rfl)) dX3_proxy_34 ⟨Nat.le_of_ble_eq_true rfl, Nat.le_of_ble_eq_true rfl⟩) hS (fun H locs hP hS => ?_)
        refine bv_ifneB (tgt := 46) hx hb dX3_proxy_37 (by decide) (fun c_4 => ?_) (fun c_4 => ?_)
        · have r_4 := bv_rb_t c_4
          refine lv_aload_n hx hb dX3_proxy_46 rfl (lv_at hl 0 rfl) ?_
          refine lv_iload_n hx hb dX3_proxy_47 rfl (lv_at hl 1 rfl) ?_
          refine bv_ci (va_runV (As := [.int (nI j)]) (rest := []) ⟨hx, hb, hml, hown, hts⟩ (c_X3_isRented l G S M (0, z.2) j (by omega)) (cwV 1 hts gX3_proxy_X3_isRented rfl rfl rfl (by decide +kernel) ⟨Nat.le_of_ble_eq_true rfl, Nat.le_of_ble_eq_true rfl⟩) (bv_preV hz hP hK hE hS (ci := 3) (bv_c43 G _ _ _) rfl rfl) rfl rfl hl.1 rfl (lv_room (Nat.le_of_ble_eq_true rfl)) dX3_proxy_48 ⟨Nat.le_of_ble_eq_true rfl, Nat.le_of_ble_eq_true rfl⟩) hS (fun H locs hP hS => ?_)
          refine bv_ifeqB (tgt := 88) hx hb dX3_proxy_51 (by decide) (fun c_5 => ?_) (fun c_5 => ?_)
          · have c_5t := eq_false c_5
            refine lv_aload_n hx hb dX3_proxy_88 rfl (lv_at hl 0 rfl) ?_
            refine lv_iconst (v := 2) hx hb dX3_proxy_89 (by decide) ?_
            refine bv_ci (va_runV (As := [.int 2]) (rest := []) ⟨hx, hb, hml, hown, hts⟩ (c_X3_fails l G S M (0, z.2) 2 ) (cwV 1 hts gX3_proxy_X3_fails rfl rfl rfl (by decide +kernel) ⟨Nat.le_of_ble_eq_true rfl, Nat.le_of_ble_eq_true rfl⟩) (bv_preV hz hP hK hE hS (ci := 3) (bv_c43 G _ _ _) rfl rfl) rfl rfl hl.1 rfl (lv_room (Nat.le_of_ble_eq_true rfl)) dX3_proxy_90 ⟨Nat.le_of_ble_eq_true rfl, Nat.le_of_ble_eq_true rfl⟩) hS (fun H locs hP hS => ?_)
            have hW : bv_H G S ((sp_proxy M (nI j) (nI q) p2 p3).2.2) ((sp_proxy M (nI j) (nI q) p2 p3).1, z.2) H := by
              rw [show (sp_proxy M (nI j) (nI q) p2 p3).2.2 = M from by simp [sp_proxy, r_1, bv_cl hj (by decide : 8 < 2 ^ 31), ed2, ec5n, r_2, bv_cl hq (by decide : 16 < 2 ^ 31), r_3, r_4, c_5t, bv_nb, bv_up_at, bv_fr12, bv_fr13]]
              rw [show (sp_proxy M (nI j) (nI q) p2 p3).1 = 2 from by simp [sp_proxy, r_1, bv_cl hj (by decide : 8 < 2 ^ 31), ed2, ec5n, r_2, bv_cl hq (by decide : 16 < 2 ^ 31), r_3, r_4, c_5t, bv_nb, bv_up_at, bv_fr12, bv_fr13]]
              exact hP
            exact bv_iret hx hb hr hlocks hS (Nat.le_of_ble_eq_true rfl) (Nat.le_of_ble_eq_true rfl) dX3_proxy_93 (by simp [sp_proxy, r_1, bv_cl hj (by decide : 8 < 2 ^ 31), ed2, ec5n, r_2, bv_cl hq (by decide : 16 < 2 ^ 31), r_3, r_4, c_5t, bv_nb, bv_up_at, bv_fr12, bv_fr13]) hW
          · have c_5t := eq_true c_5
            refine lv_aload_n hx hb dX3_proxy_54 rfl (lv_at hl 0 rfl) ?_
            refine bv_get_f (ci := 3) (C := RX3) (T := TX3) (N := 21) hx hb hts hin3 hown hK hP (bv_c43 G _ _ _) rfl 2 (by decide) wl2 rfl rfl dX3_proxy_55 ?_
            refine lv_aload_n hx hb dX3_proxy_58 rfl (lv_at hl 0 rfl) ?_
            refine bv_get_f (ci := 3) (C := RX3) (T := TX3) (N := 21) hx hb hts hin3 hown hK hP (bv_c43 G _ _ _) rfl 6 (by decide) wl3 rfl rfl dX3_proxy_59 ?_
            refine lv_iload_n hx hb dX3_proxy_62 rfl (lv_at hl 1 rfl) ?_
            refine bv_iald hx hb hK hP 48 (bv_c48 G _ _ _) j (rfl) (hj) (by decide) dX3_proxy_63 ?_
            refine bv_eqi (y := nI d0) (ed) ?_
            refine bv_zald hx hb hK hP 44 (bv_c44 G _ _ _) d0 (rfl) (hd0) (by decide) dX3_proxy_64 ?_
            refine lv_if_ne (tgt := 88) hx hb dX3_proxy_65 (by decide) (fun c_6 => ?_) (fun c_6 => ?_)
            · have c_6 : ¬ (M 1 d0) = 0 := c_6
              refine lv_aload_n hx hb dX3_proxy_88 rfl (lv_at hl 0 rfl) ?_
              refine lv_iconst (v := 2) hx hb dX3_proxy_89 (by decide) ?_
              refine bv_ci (va_runV (As := [.int 2]) (rest := []) ⟨hx, hb, hml, hown, hts⟩ (c_X3_fails l G S M (0, z.2) 2 ) (cwV 1 hts gX3_proxy_X3_fails rfl rfl rfl (by decide +kernel) ⟨Nat.le_of_ble_eq_true rfl, Nat.le_of_ble_eq_true rfl⟩) (bv_preV hz hP hK hE hS (ci := 3) (bv_c43 G _ _ _) rfl rfl) rfl rfl hl.1 rfl (lv_room (Nat.le_of_ble_eq_true rfl)) dX3_proxy_90 ⟨Nat.le_of_ble_eq_true rfl, Nat.le_of_ble_eq_true rfl⟩) hS (fun H locs hP hS => ?_)
              have hW : bv_H G S ((sp_proxy M (nI j) (nI q) p2 p3).2.2) ((sp_proxy M (nI j) (nI q) p2 p3).1, z.2) H := by
                rw [show (sp_proxy M (nI j) (nI q) p2 p3).2.2 = M from by simp [sp_proxy, r_1, bv_cl hj (by decide : 8 < 2 ^ 31), ed2, ec5n, r_2, bv_cl hq (by decide : 16 < 2 ^ 31), r_3, r_4, c_5t, c_6, bv_nb, bv_up_at, bv_fr12, bv_fr13]]
                rw [show (sp_proxy M (nI j) (nI q) p2 p3).1 = 2 from by simp [sp_proxy, r_1, bv_cl hj (by decide : 8 < 2 ^ 31), ed2, ec5n, r_2, bv_cl hq (by decide : 16 < 2 ^ 31), r_3, r_4, c_5t, c_6, bv_nb, bv_up_at, bv_fr12, bv_fr13]]
                exact hP
              exact bv_iret hx hb hr hlocks hS (Nat.le_of_ble_eq_true rfl) (Nat.le_of_ble_eq_true rfl) dX3_proxy_93 (by simp [sp_proxy, r_1, bv_cl hj (by decide : 8 < 2 ^ 31), ed2, ec5n, r_2, bv_cl hq (by decide : 16 < 2 ^ 31), r_3, r_4, c_5t, c_6, bv_nb, bv_up_at, bv_fr12, bv_fr13]) hW
            · have c_6 : (M 1 d0) = 0 := c_6
              refine lv_iload_n hx hb dX3_proxy_68 rfl (lv_at hl 2 rfl) ?_
              refine lv_aload_n hx hb dX3_proxy_69 rfl (lv_at hl 0 rfl) ?_
              refine bv_get_f (ci := 3) (C := RX3) (T := TX3) (N := 21) hx hb hts hin3 hown hK hP (bv_c43 G _ _ _) rfl 6 (by decide) wl3 rfl rfl dX3_proxy_70 ?_
              refine lv_iload_n hx hb dX3_proxy_73 rfl (lv_at hl 1 rfl) ?_
              refine bv_iald hx hb hK hP 48 (bv_c48 G _ _ _) j (rfl) (hj) (by decide) dX3_proxy_74 ?_
              refine lv_icmp_eq (tgt := 88) hx hb dX3_proxy_75 (by decide) (fun c_7 => ?_) (fun c_7 => ?_)
              · have c_7 : (nI q) = (M 10 j) := c_7
                have c_7t := eq_true c_7
                refine lv_aload_n hx hb dX3_proxy_88 rfl (lv_at hl 0 rfl) ?_
                refine lv_iconst (v := 2) hx hb dX3_proxy_89 (by decide) ?_
                refine bv_ci (va_runV (As := [.int 2]) (rest := []) ⟨hx, hb, hml, hown, hts⟩ (c_X3_fails l G S M (0, z.2) 2 ) (cwV 1 hts gX3_proxy_X3_fails rfl rfl rfl (by decide +kernel) ⟨Nat.le_of_ble_eq_true rfl, Nat.le_of_ble_eq_true rfl⟩) (bv_preV hz hP hK hE hS (ci := 3) (bv_c43 G _ _ _) rfl rfl) rfl rfl hl.1 rfl (lv_room (Nat.le_of_ble_eq_true rfl)) dX3_proxy_90 ⟨Nat.le_of_ble_eq_true rfl, Nat.le_of_ble_eq_true rfl⟩) hS (fun H locs hP hS => ?_)
                have hW : bv_H G S ((sp_proxy M (nI j) (nI q) p2 p3).2.2) ((sp_proxy M (nI j) (nI q) p2 p3).1, z.2) H := by
                  rw [show (sp_proxy M (nI j) (nI q) p2 p3).2.2 = M from by simp [sp_proxy, r_1, bv_cl hj (by decide : 8 < 2 ^ 31), ed2, ec5n, r_2, bv_cl hq (by decide : 16 < 2 ^ 31), r_3, r_4, c_5t, c_6, c_7t, bv_nb, bv_up_at, bv_fr12, bv_fr13]]
                  rw [show (sp_proxy M (nI j) (nI q) p2 p3).1 = 2 from by simp [sp_proxy, r_1, bv_cl hj (by decide : 8 < 2 ^ 31), ed2, ec5n, r_2, bv_cl hq (by decide : 16 < 2 ^ 31), r_3, r_4, c_5t, c_6, c_7t, bv_nb, bv_up_at, bv_fr12, bv_fr13]]
                  exact hP
                exact bv_iret hx hb hr hlocks hS (Nat.le_of_ble_eq_true rfl) (Nat.le_of_ble_eq_true rfl) dX3_proxy_93 (by simp [sp_proxy, r_1, bv_cl hj (by decide : 8 < 2 ^ 31), ed2, ec5n, r_2, bv_cl hq (by decide : 16 < 2 ^ 31), r_3, r_4, c_5t, c_6, c_7t, bv_nb, bv_up_at, bv_fr12, bv_fr13]) hW
              · have c_7 : ¬ (nI q) = (M 10 j) := c_7
                refine lv_aload_n hx hb dX3_proxy_78 rfl (lv_at hl 0 rfl) ?_
                refine bv_get_f (ci := 3) (C := RX3) (T := TX3) (N := 21) hx hb hts hin3 hown hK hP (bv_c43 G _ _ _) rfl 11 (by decide) wl4 rfl rfl dX3_proxy_79 ?_
                refine lv_iload_n hx hb dX3_proxy_82 rfl (lv_at hl 1 rfl) ?_
                refine bv_iald hx hb hK hP 53 (bv_c53 G _ _ _) j (rfl) (hj) (by decide) dX3_proxy_83 ?_
                refine lv_iconst (v := 5) hx hb dX3_proxy_84 (by decide) ?_
                refine lv_icmp_ne (tgt := 94) hx hb dX3_proxy_85 (by decide) (fun c_8 => ?_) (fun c_8 => ?_)
                · have c_8 : ¬ (M 15 j) = 5 := c_8
                  have hlt5 : c5 < 5 := bv_lt_ne (b := 5) ec5 hc5 (by assumption)
                  refine lv_iconst (v := 5) hx hb dX3_proxy_94 (by decide) ?_
                  refine lv_iload_n hx hb dX3_proxy_95 rfl (lv_at hl 1 rfl) ?_
                  refine lv_imul hx hb dX3_proxy_96 ?_
                  refine bv_eqi (y := nI (5 * j)) (pk_mul 5 j) ?_
                  refine lv_aload_n hx hb dX3_proxy_97 rfl (lv_at hl 0 rfl) ?_
                  refine bv_get_f (ci := 3) (C := RX3) (T := TX3) (N := 21) hx hb hts hin3 hown hK hP (bv_c43 G _ _ _) rfl 11 (by decide) wl4 rfl rfl dX3_proxy_98 ?_
                  refine lv_iload_n hx hb dX3_proxy_101 rfl (lv_at hl 1 rfl) ?_
                  refine bv_iald hx hb hK hP 53 (bv_c53 G _ _ _) j (rfl) (hj) (by decide) dX3_proxy_102 ?_
                  refine bv_eqi (y := nI c5) (ec5) ?_
                  refine lv_iadd hx hb dX3_proxy_103 ?_
                  refine bv_eqi (y := nI (5 * j + c5)) (nI_add _ _) ?_
                  refine lv_istore (lv' := [(5, .int (nI (5 * j + c5))), (0, .ref (bv_a G 43)), (1, .int (nI j)), (2, .int (nI q)), (3, .int p2), (4, .int p3)]) hx hb dX3_proxy_104 hl (by decide) rfl (fun ls hl => ?_)
                  refine lv_aload_n hx hb dX3_proxy_106 rfl (lv_at hl 1 rfl) ?_
                  refine bv_get_f (ci := 3) (C := RX3) (T := TX3) (N := 21) hx hb hts hin3 hown hK hP (bv_c43 G _ _ _) rfl 12 (by decide) wl5 rfl rfl dX3_proxy_107 ?_
                  refine lv_iload hx hb dX3_proxy_110 (lv_at hl 0 rfl) ?_
                  refine lv_iload_n hx hb dX3_proxy_112 rfl (lv_at hl 3 rfl) ?_
                  refine bv_iast hx hb hK hP hS 54 (bv_c54 G _ _ _ ) (5 * j + c5) (rfl) (by omega) (by decide) (bv_s54 G _ _ _ _ _) dX3_proxy_113 (fun H locs hP hS => ?_)
                  refine lv_aload_n hx hb dX3_proxy_114 rfl (lv_at hl 1 rfl) ?_
                  refine bv_get_f (ci := 3) (C := RX3) (T := TX3) (N := 21) hx hb hts hin3 hown hK hP (bv_c43 G _ _ _) rfl 13 (by decide) wl6 rfl rfl dX3_proxy_115 ?_
                  refine lv_iload hx hb dX3_proxy_118 (lv_at hl 0 rfl) ?_
                  refine lv_iload_n hx hb dX3_proxy_120 rfl (lv_at hl 4 rfl) ?_
                  refine bv_iast hx hb hK hP hS 55 (bv_c55 G _ _ _ ) (5 * j + c5) (rfl) (by omega) (by decide) (bv_s55 G _ _ _ _ _) dX3_proxy_121 (fun H locs hP hS => ?_)
                  refine lv_aload_n hx hb dX3_proxy_122 rfl (lv_at hl 1 rfl) ?_
                  refine bv_get_f (ci := 3) (C := RX3) (T := TX3) (N := 21) hx hb hts hin3 hown hK hP (bv_c43 G _ _ _) rfl 14 (by decide) wl7 rfl rfl dX3_proxy_123 ?_
                  refine lv_iload hx hb dX3_proxy_126 (lv_at hl 0 rfl) ?_
                  refine lv_iload hx hb dX3_proxy_128 (lv_at hl 5 rfl) ?_
                  refine bv_iast hx hb hK hP hS 56 (bv_c56 G _ _ _ ) (5 * j + c5) (rfl) (by omega) (by decide) (bv_s56 G _ _ _ _ _) dX3_proxy_130 (fun H locs hP hS => ?_)
                  refine lv_aload_n hx hb dX3_proxy_131 rfl (lv_at hl 1 rfl) ?_
                  refine bv_get_f (ci := 3) (C := RX3) (T := TX3) (N := 21) hx hb hts hin3 hown hK hP (bv_c43 G _ _ _) rfl 11 (by decide) wl4 rfl rfl dX3_proxy_132 ?_
                  refine lv_iload_n hx hb dX3_proxy_135 rfl (lv_at hl 2 rfl) ?_
                  refine lv_dup2_11 hx hb dX3_proxy_136 rfl rfl ?_
                  refine bv_iald hx hb hK hP 53 (bv_c53 G _ _ _) j (rfl) (hj) (by decide) dX3_proxy_137 ?_
                  refine lv_iconst (v := 1) hx hb dX3_proxy_138 (by decide) ?_
                  refine lv_iadd hx hb dX3_proxy_139 ?_
                  refine bv_iast hx hb hK hP hS 53 (bv_c53 G _ _ _ ) j (rfl) (hj) (by decide) (bv_s53 G _ _ _ _ _) dX3_proxy_140 (fun H locs hP hS => ?_)
                  refine lv_aload_n hx hb dX3_proxy_141 rfl (lv_at hl 1 rfl) ?_
                  refine bv_get_f (ci := 3) (C := RX3) (T := TX3) (N := 21) hx hb hts hin3 hown hK hP (bv_c43 G _ _ _) rfl 11 (by decide) wl4 rfl rfl dX3_proxy_142 ?_
                  refine lv_iload_n hx hb dX3_proxy_145 rfl (lv_at hl 2 rfl) ?_
                  refine bv_iald hx hb hK hP 53 (bv_c53 G _ _ _) j (rfl) (hj) (by decide) dX3_proxy_146 ?_
                  have hW : bv_H G S ((sp_proxy M (nI j) (nI q) p2 p3).2.2) ((sp_proxy M (nI j) (nI q) p2 p3).1, z.2) H := by
                    rw [show (sp_proxy M (nI j) (nI q) p2 p3).2.2 = bv_up (bv_up (bv_up (bv_up M 16 (5 * j + c5) (nI q)) 17 (5 * j + c5) p2) 18 (5 * j + c5) p3) 15 j ((M 15 j) + 1) from by simp [sp_proxy, r_1, bv_cl hj (by decide : 8 < 2 ^ 31), ed2, ec5n, r_2, bv_cl hq (by decide : 16 < 2 ^ 31), r_3, r_4, c_5t, c_6, c_7, c_8, bv_nb, bv_up_at, bv_fr12, bv_fr13]]
                    rw [show (sp_proxy M (nI j) (nI q) p2 p3).1 = 0 from by simp [sp_proxy, r_1, bv_cl hj (by decide : 8 < 2 ^ 31), ed2, ec5n, r_2, bv_cl hq (by decide : 16 < 2 ^ 31), r_3, r_4, c_5t, c_6, c_7, c_8, bv_nb, bv_up_at, bv_fr12, bv_fr13]]
                    exact hP
                  exact bv_iret hx hb hr hlocks hS (Nat.le_of_ble_eq_true rfl) (Nat.le_of_ble_eq_true rfl) dX3_proxy_147 (by simp [sp_proxy, r_1, bv_cl hj (by decide : 8 < 2 ^ 31), ed2, ec5n, r_2, bv_cl hq (by decide : 16 < 2 ^ 31), r_3, r_4, c_5t, c_6, c_7, c_8, bv_nb, bv_up_at, bv_fr12, bv_fr13]) hW
                · have c_8 : (M 15 j) = 5 := c_8
                  refine lv_aload_n hx hb dX3_proxy_88 rfl (lv_at hl 0 rfl) ?_
                  refine lv_iconst (v := 2) hx hb dX3_proxy_89 (by decide) ?_
                  refine bv_ci (va_runV (As := [.int 2]) (rest := []) ⟨hx, hb, hml, hown, hts⟩ (c_X3_fails l G S M (0, z.2) 2 ) (cwV 1 hts gX3_proxy_X3_fails rfl rfl rfl (by decide +kernel) ⟨Nat.le_of_ble_eq_true rfl, Nat.le_of_ble_eq_true rfl⟩) (bv_preV hz hP hK hE hS (ci := 3) (bv_c43 G _ _ _) rfl rfl) rfl rfl hl.1 rfl (lv_room (Nat.le_of_ble_eq_true rfl)) dX3_proxy_90 ⟨Nat.le_of_ble_eq_true rfl, Nat.le_of_ble_eq_true rfl⟩) hS (fun H locs hP hS => ?_)
                  have hW : bv_H G S ((sp_proxy M (nI j) (nI q) p2 p3).2.2) ((sp_proxy M (nI j) (nI q) p2 p3).1, z.2) H := by
                    rw [show (sp_proxy M (nI j) (nI q) p2 p3).2.2 = M from by simp [sp_proxy, r_1, bv_cl hj (by decide : 8 < 2 ^ 31), ed2, ec5n, r_2, bv_cl hq (by decide : 16 < 2 ^ 31), r_3, r_4, c_5t, c_6, c_7, c_8, bv_nb, bv_up_at, bv_fr12, bv_fr13]]
                    rw [show (sp_proxy M (nI j) (nI q) p2 p3).1 = 2 from by simp [sp_proxy, r_1, bv_cl hj (by decide : 8 < 2 ^ 31), ed2, ec5n, r_2, bv_cl hq (by decide : 16 < 2 ^ 31), r_3, r_4, c_5t, c_6, c_7, c_8, bv_nb, bv_up_at, bv_fr12, bv_fr13]]
                    exact hP
                  exact bv_iret hx hb hr hlocks hS (Nat.le_of_ble_eq_true rfl) (Nat.le_of_ble_eq_true rfl) dX3_proxy_93 (by simp [sp_proxy, r_1, bv_cl hj (by decide : 8 < 2 ^ 31), ed2, ec5n, r_2, bv_cl hq (by decide : 16 < 2 ^ 31), r_3, r_4, c_5t, c_6, c_7, c_8, bv_nb, bv_up_at, bv_fr12, bv_fr13]) hW
        · have r_4 := bv_rb_f c_4
          refine lv_aload_n hx hb dX3_proxy_40 rfl (lv_at hl 0 rfl) ?_
          refine lv_iconst (v := 1) hx hb dX3_proxy_41 (by decide) ?_
          refine bv_ci (va_runV (As := [.int 1]) (rest := []) ⟨hx, hb, hml, hown, hts⟩ (c_X3_fails l G S M (0, z.2) 1 ) (cwV 1 hts gX3_proxy_X3_fails rfl rfl rfl (by decide +kernel) ⟨Nat.le_of_ble_eq_true rfl, Nat.le_of_ble_eq_true rfl⟩) (bv_preV hz hP hK hE hS (ci := 3) (bv_c43 G _ _ _) rfl rfl) rfl rfl hl.1 rfl (lv_room (Nat.le_of_ble_eq_true rfl)) dX3_proxy_42 ⟨Nat.le_of_ble_eq_true rfl, Nat.le_of_ble_eq_true rfl⟩) hS (fun H locs hP hS => ?_)
          have hW : bv_H G S ((sp_proxy M (nI j) (nI q) p2 p3).2.2) ((sp_proxy M (nI j) (nI q) p2 p3).1, z.2) H := by
            rw [show (sp_proxy M (nI j) (nI q) p2 p3).2.2 = M from by simp [sp_proxy, r_1, bv_cl hj (by decide : 8 < 2 ^ 31), ed2, ec5n, r_2, bv_cl hq (by decide : 16 < 2 ^ 31), r_3, r_4, bv_nb, bv_up_at, bv_fr12, bv_fr13]]
            rw [show (sp_proxy M (nI j) (nI q) p2 p3).1 = 1 from by simp [sp_proxy, r_1, bv_cl hj (by decide : 8 < 2 ^ 31), ed2, ec5n, r_2, bv_cl hq (by decide : 16 < 2 ^ 31), r_3, r_4, bv_nb, bv_up_at, bv_fr12, bv_fr13]]
            exact hP
          exact bv_iret hx hb hr hlocks hS (Nat.le_of_ble_eq_true rfl) (Nat.le_of_ble_eq_true rfl) dX3_proxy_45 (by simp [sp_proxy, r_1, bv_cl hj (by decide : 8 < 2 ^ 31), ed2, ec5n, r_2, bv_cl hq (by decide : 16 < 2 ^ 31), r_3, r_4, bv_nb, bv_up_at, bv_fr12, bv_fr13]) hW
set_option maxHeartbeats 4000000 in
set_option maxRecDepth 100000 in
theorem c_X3_heir (l : Launch) (G : bv_G) (S M : bv_X) (z : bv_Z) (n : Nat) (p0 : Int32) (p1 : Int32) (p2 : Int32) (hn : n ≤ 1000) (hI : bv_I n M) : bv_M l yX3_heir wsX3_heir ({ frames := 2, cells := 0, slots := 0, locals := 42 }) [.ref (bv_a G 43), .int p0, .int p1, .int p2] G S M z ((sp_heir M p0 p1 p2).2.1) S ((sp_heir M p0 p1 p2).2.2) ((sp_heir M p0 p1 p2).1, z.2) := by
  refine Met.ofW (cc := cX3_heir) (maxL := 5) (ret := (some .boolean)) (by decide) rfl ?_
  intro p e s m args below meth c s₁ B hml hv
  obtain ⟨rfl, hz, hP, hK, hE⟩ := hv
  have hx := B.exec
  have hb := B.bytes
  have hr := B.returns
  have hts := atoms_spec (ws := wsX3_heir) B.pre
  have hown : s.vm.findClass RX3 = some m.cls := findClass_of_methodNamed B.named
  have hlocks := B.notSynchronized
  have hS : va_S (bv_A G) s.heap s.heap [] := va_S.rf
  have wl0 := hts (.fieldLink RX3 65 "BoxVaultModel" "thrown" "I") (by decide +kernel)
  have wl1 := hts (.fieldLink RX3 13 "BoxVaultModel" "heirs" "[I") (by decide +kernel)
  have hin3 : ∀ w ∈ wsX30, w ∈ wsX3_heir := (fun w h => List.mem_cons_of_mem _ (List.mem_append_right _ h))
  have hl := lv_entry ([.ref (bv_a G 43), .int p0, .int p1, .int p2]) (n := 5) (Nat.le_of_ble_eq_true rfl)
  rw [lg_entry_eq]
  generalize (lg_sl ([.ref (bv_a G 43), .int p0, .int p1, .int p2]) ++ List.replicate (5 - (lg_sl ([.ref (bv_a G 43), .int p0, .int p1, .int p2])).length) Slot.unset).toArray = ls at hl ⊢
  have hl : lv_has ls 5 [(0, .ref (bv_a G 43)), (1, .int p0), (2, .int p1), (3, .int p2)] := hl
  refine lv_aload_n hx hb dX3_heir_0 rfl (lv_at hl 0 rfl) ?_
  refine lv_iload_n hx hb dX3_heir_1 rfl (lv_at hl 1 rfl) ?_
  refine bv_ci (va_runS (As := [.int p0]) (rest := [.ref (bv_a G 43)]) ⟨hx, hb, hml, hown, hts⟩ (c_X3_isPerson l G S M z p0 ) (va_cwS 1 hts gX3_heir_X3_isPerson rfl rfl rfl (by decide +kernel) ⟨Nat.le_of_ble_eq_true rfl, Nat.le_of_ble_eq_true rfl⟩) (bv_preS hz hP hK hE hS) rfl rfl hl.1 rfl (lv_room (Nat.le_of_ble_eq_true rfl)) dX3_heir_2 ⟨Nat.le_of_ble_eq_true rfl, Nat.le_of_ble_eq_true rfl⟩) hS (fun H locs hP hS => ?_)
  refine bv_ifeqB (tgt := 24) hx hb dX3_heir_5 (by decide) (fun c_1 => ?_) (fun c_1 => ?_)
  · have r_1 := bv_rb_f c_1
    refine lv_iconst (v := 1) hx hb dX3_heir_24 (by decide) ?_
    refine bv_put_f (ci := 3) (C := RX3) (T := TX3) (N := 21) (ty := .int) hx hb hts hin3 tyX3 tyX3_ok nmX3 hown hK hP hS (bv_c43 G _ _ _) rfl 0 (by decide) wl0 rfl rfl rfl rfl rfl (Nat.le_of_ble_eq_true rfl) rfl (bv_sth G _ _ _ _) dX3_heir_25 (fun H locs hP hS => ?_)
    refine lv_aload_n hx hb dX3_heir_28 rfl (lv_at hl 0 rfl) ?_
    refine bv_get_f (ci := 3) (C := RX3) (T := TX3) (N := 21) hx hb hts hin3 hown hK hP (bv_c43 G _ _ _) rfl 0 (by decide) wl0 rfl rfl dX3_heir_29 ?_
    refine lv_if_le (tgt := 37) hx hb dX3_heir_32 (by decide) (fun c_2 => ?_) (fun c_2 => ?_)
    · exact absurd c_2 (show ¬ ((1 : Int32) ≤ 0) from by decide)
    · have c_2 : ¬ (1 : Int32) ≤ 0 := c_2
      refine lv_iconst (v := 0) hx hb dX3_heir_35 (by decide) ?_
      have hW : bv_H G S ((sp_heir M p0 p1 p2).2.2) ((sp_heir M p0 p1 p2).1, z.2) H := by
        rw [show (sp_heir M p0 p1 p2).2.2 = M from by simp [sp_heir, r_1, c_2, bv_nb, bv_up_at, bv_fr12, bv_fr13]]
        rw [show (sp_heir M p0 p1 p2).1 = 1 from by simp [sp_heir, r_1, c_2, bv_nb, bv_up_at, bv_fr12, bv_fr13]]
        exact hP
      exact bv_zret hx hb hr hlocks (rfl) hS (Nat.le_of_ble_eq_true rfl) (Nat.le_of_ble_eq_true rfl) dX3_heir_36 (by simp [sp_heir, r_1, c_2, bv_nb, bv_up_at, bv_fr12, bv_fr13]) hW
  · have r_1 := bv_rb_t c_1
    obtain ⟨q0, hq0, ej⟩ := bv_of16 c_1
    subst ej
    refine lv_iload_n hx hb dX3_heir_8 rfl (lv_at hl 2 rfl) ?_
    refine bv_ci (va_runS (As := [.int p1]) (rest := [.ref (bv_a G 43)]) ⟨hx, hb, hml, hown, hts⟩ (c_X3_isPerson l G S M z p1 ) (va_cwS 1 hts gX3_heir_X3_isPerson rfl rfl rfl (by decide +kernel) ⟨Nat.le_of_ble_eq_true rfl, Nat.le_of_ble_eq_true rfl⟩) (bv_preS hz hP hK hE hS) rfl rfl hl.1 rfl (lv_room (Nat.le_of_ble_eq_true rfl)) dX3_heir_9 ⟨Nat.le_of_ble_eq_true rfl, Nat.le_of_ble_eq_true rfl⟩) hS (fun H locs hP hS => ?_)
    refine bv_ifeqB (tgt := 24) hx hb dX3_heir_12 (by decide) (fun c_3 => ?_) (fun c_3 => ?_)
    · have r_3 := bv_rb_f c_3
      refine lv_iconst (v := 1) hx hb dX3_heir_24 (by decide) ?_
      refine bv_put_f (ci := 3) (C := RX3) (T := TX3) (N := 21) (ty := .int) hx hb hts hin3 tyX3 tyX3_ok nmX3 hown hK hP hS (bv_c43 G _ _ _) rfl 0 (by decide) wl0 rfl rfl rfl rfl rfl (Nat.le_of_ble_eq_true rfl) rfl (bv_sth G _ _ _ _) dX3_heir_25 (fun H locs hP hS => ?_)
      refine lv_aload_n hx hb dX3_heir_28 rfl (lv_at hl 0 rfl) ?_
      refine bv_get_f (ci := 3) (C := RX3) (T := TX3) (N := 21) hx hb hts hin3 hown hK hP (bv_c43 G _ _ _) rfl 0 (by decide) wl0 rfl rfl dX3_heir_29 ?_
      refine lv_if_le (tgt := 37) hx hb dX3_heir_32 (by decide) (fun c_4 => ?_) (fun c_4 => ?_)
      · exact absurd c_4 (show ¬ ((1 : Int32) ≤ 0) from by decide)
      · have c_4 : ¬ (1 : Int32) ≤ 0 := c_4
        refine lv_iconst (v := 0) hx hb dX3_heir_35 (by decide) ?_
        have hW : bv_H G S ((sp_heir M (nI q0) p1 p2).2.2) ((sp_heir M (nI q0) p1 p2).1, z.2) H := by
          rw [show (sp_heir M (nI q0) p1 p2).2.2 = M from by simp [sp_heir, r_1, bv_cl hq0 (by decide : 16 < 2 ^ 31), r_3, c_4, bv_nb, bv_up_at, bv_fr12, bv_fr13]]
          rw [show (sp_heir M (nI q0) p1 p2).1 = 1 from by simp [sp_heir, r_1, bv_cl hq0 (by decide : 16 < 2 ^ 31), r_3, c_4, bv_nb, bv_up_at, bv_fr12, bv_fr13]]
          exact hP
        exact bv_zret hx hb hr hlocks (rfl) hS (Nat.le_of_ble_eq_true rfl) (Nat.le_of_ble_eq_true rfl) dX3_heir_36 (by simp [sp_heir, r_1, bv_cl hq0 (by decide : 16 < 2 ^ 31), r_3, c_4, bv_nb, bv_up_at, bv_fr12, bv_fr13]) hW
    · have r_3 := bv_rb_t c_3
      obtain ⟨q, hq, ej⟩ := bv_of16 c_3
      subst ej
      refine lv_iload_n hx hb dX3_heir_15 rfl (lv_at hl 1 rfl) ?_
      refine lv_iload_n hx hb dX3_heir_16 rfl (lv_at hl 2 rfl) ?_
      refine lv_icmp_eq (tgt := 24) hx hb dX3_heir_17 (by decide) (fun c_5 => ?_) (fun c_5 => ?_)
      · have c_5 : (nI q0) = (nI q) := c_5
        have c_5t := eq_true c_5
        refine lv_iconst (v := 1) hx hb dX3_heir_24 (by decide) ?_
        refine bv_put_f (ci := 3) (C := RX3) (T := TX3) (N := 21) (ty := .int) hx hb hts hin3 tyX3 tyX3_ok nmX3 hown hK hP hS (bv_c43 G _ _ _) rfl 0 (by decide) wl0 rfl rfl rfl rfl rfl (Nat.le_of_ble_eq_true rfl) rfl (bv_sth G _ _ _ _) dX3_heir_25 (fun H locs hP hS => ?_)
        refine lv_aload_n hx hb dX3_heir_28 rfl (lv_at hl 0 rfl) ?_
        refine bv_get_f (ci := 3) (C := RX3) (T := TX3) (N := 21) hx hb hts hin3 hown hK hP (bv_c43 G _ _ _) rfl 0 (by decide) wl0 rfl rfl dX3_heir_29 ?_
        refine lv_if_le (tgt := 37) hx hb dX3_heir_32 (by decide) (fun c_6 => ?_) (fun c_6 => ?_)
        · exact absurd c_6 (show ¬ ((1 : Int32) ≤ 0) from by decide)
        · have c_6 : ¬ (1 : Int32) ≤ 0 := c_6
          refine lv_iconst (v := 0) hx hb dX3_heir_35 (by decide) ?_
          have hW : bv_H G S ((sp_heir M (nI q0) (nI q) p2).2.2) ((sp_heir M (nI q0) (nI q) p2).1, z.2) H := by
            rw [show (sp_heir M (nI q0) (nI q) p2).2.2 = M from by simp [sp_heir, r_1, bv_cl hq0 (by decide : 16 < 2 ^ 31), r_3, bv_cl hq (by decide : 16 < 2 ^ 31), c_5t, c_6, bv_nb, bv_up_at, bv_fr12, bv_fr13]]
            rw [show (sp_heir M (nI q0) (nI q) p2).1 = 1 from by simp [sp_heir, r_1, bv_cl hq0 (by decide : 16 < 2 ^ 31), r_3, bv_cl hq (by decide : 16 < 2 ^ 31), c_5t, c_6, bv_nb, bv_up_at, bv_fr12, bv_fr13]]
            exact hP
          exact bv_zret hx hb hr hlocks (rfl) hS (Nat.le_of_ble_eq_true rfl) (Nat.le_of_ble_eq_true rfl) dX3_heir_36 (by simp [sp_heir, r_1, bv_cl hq0 (by decide : 16 < 2 ^ 31), r_3, bv_cl hq (by decide : 16 < 2 ^ 31), c_5t, c_6, bv_nb, bv_up_at, bv_fr12, bv_fr13]) hW
      · have c_5 : ¬ (nI q0) = (nI q) := c_5
        refine lv_iconst (v := 0) hx hb dX3_heir_20 (by decide) ?_
        refine lv_goto (tgt := 25) hx hb dX3_heir_21 (by decide) ?_
        refine bv_put_f (ci := 3) (C := RX3) (T := TX3) (N := 21) (ty := .int) hx hb hts hin3 tyX3 tyX3_ok nmX3 hown hK hP hS (bv_c43 G _ _ _) rfl 0 (by decide) wl0 rfl rfl rfl rfl rfl (Nat.le_of_ble_eq_true rfl) rfl (bv_sth G _ _ _ _) dX3_heir_25 (fun H locs hP hS => ?_)
        refine lv_aload_n hx hb dX3_heir_28 rfl (lv_at hl 0 rfl) ?_
        refine bv_get_f (ci := 3) (C := RX3) (T := TX3) (N := 21) hx hb hts hin3 hown hK hP (bv_c43 G _ _ _) rfl 0 (by decide) wl0 rfl rfl dX3_heir_29 ?_
        refine lv_if_le (tgt := 37) hx hb dX3_heir_32 (by decide) (fun c_7 => ?_) (fun c_7 => ?_)
        · have c_7 : (0 : Int32) ≤ 0 := c_7
          refine lv_aload_n hx hb dX3_heir_37 rfl (lv_at hl 0 rfl) ?_
          refine lv_iload_n hx hb dX3_heir_38 rfl (lv_at hl 2 rfl) ?_
          refine lv_iload_n hx hb dX3_heir_39 rfl (lv_at hl 1 rfl) ?_
          refine bv_ci (va_runV (As := [.int (nI q), .int (nI q0)]) (rest := []) ⟨hx, hb, hml, hown, hts⟩ (c_X3_isHeir l G S M (0, z.2) q q0 (by omega) (by omega)) (cwV 2 hts gX3_heir_X3_isHeir rfl rfl rfl (by decide +kernel) ⟨Nat.le_of_ble_eq_true rfl, Nat.le_of_ble_eq_true rfl⟩) (bv_preV hz hP hK hE hS (ci := 3) (bv_c43 G _ _ _) rfl rfl) rfl rfl hl.1 rfl (lv_room (Nat.le_of_ble_eq_true rfl)) dX3_heir_40 ⟨Nat.le_of_ble_eq_true rfl, Nat.le_of_ble_eq_true rfl⟩) hS (fun H locs hP hS => ?_)
          refine lv_istore (lv' := [(4, .int (bI (bv_hr M q q0))), (0, .ref (bv_a G 43)), (1, .int (nI q0)), (2, .int (nI q)), (3, .int p2)]) hx hb dX3_heir_43 hl (by decide) rfl (fun ls hl => ?_)
          refine lv_aload_n hx hb dX3_heir_45 rfl (lv_at hl 1 rfl) ?_
          refine bv_get_f (ci := 3) (C := RX3) (T := TX3) (N := 21) hx hb hts hin3 hown hK hP (bv_c43 G _ _ _) rfl 3 (by decide) wl1 rfl rfl dX3_heir_46 ?_
          refine lv_iload_n hx hb dX3_heir_49 rfl (lv_at hl 2 rfl) ?_
          refine lv_iload_n hx hb dX3_heir_50 rfl (lv_at hl 4 rfl) ?_
          refine lv_if_eq (tgt := 67) hx hb dX3_heir_51 (by decide) (fun c_8 => ?_) (fun c_8 => ?_)
          · have c_8 : p2 = 0 := c_8
            refine lv_aload_n hx hb dX3_heir_67 rfl (lv_at hl 1 rfl) ?_
            refine bv_get_f (ci := 3) (C := RX3) (T := TX3) (N := 21) hx hb hts hin3 hown hK hP (bv_c43 G _ _ _) rfl 3 (by decide) wl1 rfl rfl dX3_heir_68 ?_
            refine lv_iload_n hx hb dX3_heir_71 rfl (lv_at hl 2 rfl) ?_
            refine bv_iald hx hb hK hP 45 (bv_c45 G _ _ _) q0 (rfl) (hq0) (by decide) dX3_heir_72 ?_
            refine lv_iconst (v := 1) hx hb dX3_heir_73 (by decide) ?_
            refine lv_iload_n hx hb dX3_heir_74 rfl (lv_at hl 3 rfl) ?_
            refine lv_ishl hx hb dX3_heir_75 ?_
            refine lv_iconst (v := (-1)) hx hb dX3_heir_76 (by decide) ?_
            refine lv_ixor hx hb dX3_heir_77 ?_
            refine lv_iand hx hb dX3_heir_78 ?_
            refine bv_iast hx hb hK hP hS 45 (bv_c45 G _ _ _ ) q0 (rfl) (hq0) (by decide) (bv_s45 G _ _ _ _ _) dX3_heir_79 (fun H locs hP hS => ?_)
            refine lv_iload hx hb dX3_heir_80 (lv_at hl 0 rfl) ?_
            have hW : bv_H G S ((sp_heir M (nI q0) (nI q) p2).2.2) ((sp_heir M (nI q0) (nI q) p2).1, z.2) H := by
              rw [show (sp_heir M (nI q0) (nI q) p2).2.2 = bv_up M 2 q0 ((M 2 q0) &&& ((1 <<< ((nI q) &&& 31)) ^^^ (-1))) from by simp [sp_heir, r_1, bv_cl hq0 (by decide : 16 < 2 ^ 31), r_3, bv_cl hq (by decide : 16 < 2 ^ 31), c_5, c_7, c_8, bv_nb, bv_up_at, bv_fr12, bv_fr13]]
              rw [show (sp_heir M (nI q0) (nI q) p2).1 = 0 from by simp [sp_heir, r_1, bv_cl hq0 (by decide : 16 < 2 ^ 31), r_3, bv_cl hq (by decide : 16 < 2 ^ 31), c_5, c_7, c_8, bv_nb, bv_up_at, bv_fr12, bv_fr13]]
              exact hP
            exact bv_zret hx hb hr hlocks (bI_nz) hS (Nat.le_of_ble_eq_true rfl) (Nat.le_of_ble_eq_true rfl) dX3_heir_82 (by simp [sp_heir, r_1, bv_cl hq0 (by decide : 16 < 2 ^ 31), r_3, bv_cl hq (by decide : 16 < 2 ^ 31), c_5, c_7, c_8, bv_nb, bv_up_at, bv_fr12, bv_fr13]) hW
          · have c_8 : ¬ p2 = 0 := c_8
            refine lv_aload_n hx hb dX3_heir_54 rfl (lv_at hl 1 rfl) ?_
            refine bv_get_f (ci := 3) (C := RX3) (T := TX3) (N := 21) hx hb hts hin3 hown hK hP (bv_c43 G _ _ _) rfl 3 (by decide) wl1 rfl rfl dX3_heir_55 ?_
            refine lv_iload_n hx hb dX3_heir_58 rfl (lv_at hl 2 rfl) ?_
            refine bv_iald hx hb hK hP 45 (bv_c45 G _ _ _) q0 (rfl) (hq0) (by decide) dX3_heir_59 ?_
            refine lv_iconst (v := 1) hx hb dX3_heir_60 (by decide) ?_
            refine lv_iload_n hx hb dX3_heir_61 rfl (lv_at hl 3 rfl) ?_
            refine lv_ishl hx hb dX3_heir_62 ?_
            refine lv_ior hx hb dX3_heir_63 ?_
            refine lv_goto (tgt := 79) hx hb dX3_heir_64 (by decide) ?_
            refine bv_iast hx hb hK hP hS 45 (bv_c45 G _ _ _ ) q0 (rfl) (hq0) (by decide) (bv_s45 G _ _ _ _ _) dX3_heir_79 (fun H locs hP hS => ?_)
            refine lv_iload hx hb dX3_heir_80 (lv_at hl 0 rfl) ?_
            have hW : bv_H G S ((sp_heir M (nI q0) (nI q) p2).2.2) ((sp_heir M (nI q0) (nI q) p2).1, z.2) H := by
              rw [show (sp_heir M (nI q0) (nI q) p2).2.2 = bv_up M 2 q0 ((M 2 q0) ||| (1 <<< ((nI q) &&& 31))) from by simp [sp_heir, r_1, bv_cl hq0 (by decide : 16 < 2 ^ 31), r_3, bv_cl hq (by decide : 16 < 2 ^ 31), c_5, c_7, c_8, bv_nb, bv_up_at, bv_fr12, bv_fr13]]
              rw [show (sp_heir M (nI q0) (nI q) p2).1 = 0 from by simp [sp_heir, r_1, bv_cl hq0 (by decide : 16 < 2 ^ 31), r_3, bv_cl hq (by decide : 16 < 2 ^ 31), c_5, c_7, c_8, bv_nb, bv_up_at, bv_fr12, bv_fr13]]
              exact hP
            exact bv_zret hx hb hr hlocks (bI_nz) hS (Nat.le_of_ble_eq_true rfl) (Nat.le_of_ble_eq_true rfl) dX3_heir_82 (by simp [sp_heir, r_1, bv_cl hq0 (by decide : 16 < 2 ^ 31), r_3, bv_cl hq (by decide : 16 < 2 ^ 31), c_5, c_7, c_8, bv_nb, bv_up_at, bv_fr12, bv_fr13]) hW
        · exact absurd c_7 (show ¬ (¬ (0 : Int32) ≤ 0) from by decide)
set_option maxHeartbeats 4000000 in
set_option maxRecDepth 100000 in
theorem c_X3_die (l : Launch) (G : bv_G) (S M : bv_X) (z : bv_Z) (n : Nat) (p0 : Int32) (hn : n ≤ 1000) (hI : bv_I n M) : bv_M l yX3_die wsX3_die ({ frames := 2, cells := 0, slots := 0, locals := 42 }) [.ref (bv_a G 43), .int p0] G S M z ((sp_die M p0).2.1) S ((sp_die M p0).2.2) ((sp_die M p0).1, z.2) := by
  refine Met.ofW (cc := cX3_die) (maxL := 5) (ret := (some .int)) (by decide) rfl ?_
  intro p e s m args below meth c s₁ B hml hv
  obtain ⟨rfl, hz, hP, hK, hE⟩ := hv
  have hx := B.exec
  have hb := B.bytes
  have hr := B.returns
  have hts := atoms_spec (ws := wsX3_die) B.pre
  have hown : s.vm.findClass RX3 = some m.cls := findClass_of_methodNamed B.named
  have hlocks := B.notSynchronized
  have hS : va_S (bv_A G) s.heap s.heap [] := va_S.rf
  have wl0 := hts (.fieldLink RX3 65 "BoxVaultModel" "thrown" "I") (by decide +kernel)
  have wl1 := hts (.fieldLink RX3 7 "BoxVaultModel" "dead" "[Z") (by decide +kernel)
  have wl2 := hts (.fieldLink RX3 20 "BoxVaultModel" "state" "[I") (by decide +kernel)
  have wl3 := hts (.fieldLink RX3 38 "BoxVaultModel" "proxies" "[I") (by decide +kernel)
  have wl4 := hts (.fieldLink RX3 23 "BoxVaultModel" "holder" "[I") (by decide +kernel)
  have hin3 : ∀ w ∈ wsX30, w ∈ wsX3_die := (fun w h => List.mem_cons_of_mem _ (List.mem_append_right _ h))
  have hl := lv_entry ([.ref (bv_a G 43), .int p0]) (n := 5) (Nat.le_of_ble_eq_true rfl)
  rw [lg_entry_eq]
  generalize (lg_sl ([.ref (bv_a G 43), .int p0]) ++ List.replicate (5 - (lg_sl ([.ref (bv_a G 43), .int p0])).length) Slot.unset).toArray = ls at hl ⊢
  have hl : lv_has ls 5 [(0, .ref (bv_a G 43)), (1, .int p0)] := hl
  refine lv_aload_n hx hb dX3_die_0 rfl (lv_at hl 0 rfl) ?_
  refine lv_iconst (v := 0) hx hb dX3_die_1 (by decide) ?_
  refine bv_put_f (ci := 3) (C := RX3) (T := TX3) (N := 21) (ty := .int) hx hb hts hin3 tyX3 tyX3_ok nmX3 hown hK hP hS (bv_c43 G _ _ _) rfl 0 (by decide) wl0 rfl rfl rfl rfl rfl (Nat.le_of_ble_eq_true rfl) rfl (bv_sth G _ _ _ _) dX3_die_2 (fun H locs hP hS => ?_)
  refine lv_iload_n hx hb dX3_die_5 rfl (lv_at hl 1 rfl) ?_
  refine bv_ci (va_runS (As := [.int p0]) (rest := []) ⟨hx, hb, hml, hown, hts⟩ (c_X3_isPerson l G S M (0, z.2) p0 ) (va_cwS 1 hts gX3_die_X3_isPerson rfl rfl rfl (by decide +kernel) ⟨Nat.le_of_ble_eq_true rfl, Nat.le_of_ble_eq_true rfl⟩) (bv_preS hz hP hK hE hS) rfl rfl hl.1 rfl (lv_room (Nat.le_of_ble_eq_true rfl)) dX3_die_6 ⟨Nat.le_of_ble_eq_true rfl, Nat.le_of_ble_eq_true rfl⟩) hS (fun H locs hP hS => ?_)
  refine bv_ifneB (tgt := 18) hx hb dX3_die_9 (by decide) (fun c_1 => ?_) (fun c_1 => ?_)
  · have r_1 := bv_rb_t c_1
    obtain ⟨q, hq, ej⟩ := bv_of16 c_1
    subst ej
    refine lv_aload_n hx hb dX3_die_18 rfl (lv_at hl 0 rfl) ?_
    refine bv_get_f (ci := 3) (C := RX3) (T := TX3) (N := 21) hx hb hts hin3 hown hK hP (bv_c43 G _ _ _) rfl 2 (by decide) wl1 rfl rfl dX3_die_19 ?_
    refine lv_iload_n hx hb dX3_die_22 rfl (lv_at hl 1 rfl) ?_
    refine bv_zald hx hb hK hP 44 (bv_c44 G _ _ _) q (rfl) (hq) (by decide) dX3_die_23 ?_
    refine lv_if_eq (tgt := 33) hx hb dX3_die_24 (by decide) (fun c_2 => ?_) (fun c_2 => ?_)
    · have c_2 : (M 1 q) = 0 := c_2
      refine lv_aload_n hx hb dX3_die_33 rfl (lv_at hl 0 rfl) ?_
      refine bv_get_f (ci := 3) (C := RX3) (T := TX3) (N := 21) hx hb hts hin3 hown hK hP (bv_c43 G _ _ _) rfl 2 (by decide) wl1 rfl rfl dX3_die_34 ?_
      refine lv_iload_n hx hb dX3_die_37 rfl (lv_at hl 1 rfl) ?_
      refine lv_iconst (v := 1) hx hb dX3_die_38 (by decide) ?_
      refine bv_zast hx hb hK hP hS 44 (bv_c44 G _ _ _ ) q (rfl) (hq) (by decide) (rfl) (bv_s44 G _ _ _ _ _) dX3_die_39 (fun H locs hP hS => ?_)
      refine lv_iconst (v := 0) hx hb dX3_die_40 (by decide) ?_
      refine lv_istore_n (lv' := [(2, .int 0), (0, .ref (bv_a G 43)), (1, .int (nI q))]) hx hb dX3_die_41 rfl hl (by decide) rfl (fun ls hl => ?_)
      refine lv_iconst (v := 0) hx hb dX3_die_42 (by decide) ?_
      refine lv_istore_n (lv' := [(3, .int 0), (2, .int 0), (0, .ref (bv_a G 43)), (1, .int (nI q))]) hx hb dX3_die_43 rfl hl (by decide) rfl (fun ls hl => ?_)
      refine bv_loop (G := G) (z := (0, z.2)) (nL := 5) (head := 44) 8 (fun i => S) (fun i => bv_dp (bv_up M 1 q 1) q i) (fun i => [(0, .ref (bv_a G 43)), (1, .int (nI q)), (2, .int (bv_dc M q i)), (3, .int (nI i))]) (fun i => True) (fun i hi hv ih H locs ls hP hS hl => ?_) (trivial) _ _ _ (by rw [bv_dp_0]; exact hP) hS (lv_sub hl [2, 3, 1, 0] rfl)
      have hP : bv_H G S (bv_dp (bv_up M 1 q 1) q i) (0, z.2) H := hP
      have hl : lv_has ls 5 [(0, .ref (bv_a G 43)), (1, .int (nI q)), (2, .int (bv_dc M q i)), (3, .int (nI i))] := hl
      refine lv_iload_n hx hb dX3_die_44 rfl (lv_at hl 3 rfl) ?_
      refine lv_bipush (v := 8) hx hb dX3_die_45 (by decide) ?_
      refine lv_icmp_ge (tgt := 124) hx hb dX3_die_47 (by decide) (fun c_3 => ?_) (fun c_3 => ?_)
      · have c_3 : (8 : Int32) ≤ (nI i) := c_3
        have ei : i = 8 := bv_eq_of (x := 8) (c := 8) rfl (by decide) hi c_3
        refine lv_iload_n hx hb dX3_die_124 rfl (lv_at hl 2 rfl) ?_
        have hW : bv_H G S ((sp_die M (nI q)).2.2) ((sp_die M (nI q)).1, z.2) H := by
          rw [show (sp_die M (nI q)).2.2 = bv_dp (bv_up M 1 q 1) q 8 from by simp [sp_die, r_1, bv_cl hq (by decide : 16 < 2 ^ 31), c_2, bv_nb, bv_up_at, bv_fr12, bv_fr13]]
          rw [show (sp_die M (nI q)).1 = 0 from by simp [sp_die, r_1, bv_cl hq (by decide : 16 < 2 ^ 31), c_2, bv_nb, bv_up_at, bv_fr12, bv_fr13]]
          rw [← ei]
          exact hP
        exact bv_iret hx hb hr hlocks hS (Nat.le_of_ble_eq_true rfl) (Nat.le_of_ble_eq_true rfl) dX3_die_125 (by first | (rw [ei]; simp [sp_die, r_1, bv_cl hq (by decide : 16 < 2 ^ 31), c_2, bv_nb, bv_up_at, bv_fr12, bv_fr13]) | simp [sp_die, r_1, bv_cl hq (by decide : 16 < 2 ^ 31), c_2, bv_nb, bv_up_at, bv_fr12, bv_fr13]) hW
      · have c_3 : ¬ (8 : Int32) ≤ (nI i) := c_3
        have hlt : i < 8 := bv_lt_of (x := 8) (c := 8) rfl (by decide) hi c_3
        refine lv_aload_n hx hb dX3_die_50 rfl (lv_at hl 0 rfl) ?_
        refine bv_get_f (ci := 3) (C := RX3) (T := TX3) (N := 21) hx hb hts hin3 hown hK hP (bv_c43 G _ _ _) rfl 5 (by decide) wl2 rfl rfl dX3_die_51 ?_
        refine lv_iload_n hx hb dX3_die_54 rfl (lv_at hl 3 rfl) ?_
        refine bv_iald hx hb hK hP 47 (bv_c47 G _ _ _) i (rfl) (by omega) (by decide) dX3_die_55 ?_
        refine lv_if_eq (tgt := 73) hx hb dX3_die_56 (by decide) (fun c_4 => ?_) (fun c_4 => ?_)
        · have c_4 : (M 9 i) = 0 := c_4
          refine lv_iconst (v := 0) hx hb dX3_die_73 (by decide) ?_
          refine lv_istore (lv' := [(4, .int 0), (0, .ref (bv_a G 43)), (1, .int (nI q)), (2, .int (bv_dc M q i)), (3, .int (nI i))]) hx hb dX3_die_74 hl (by decide) rfl (fun ls hl => ?_)
          refine lv_aload_n hx hb dX3_die_76 rfl (lv_at hl 1 rfl) ?_
          refine bv_get_f (ci := 3) (C := RX3) (T := TX3) (N := 21) hx hb hts hin3 hown hK hP (bv_c43 G _ _ _) rfl 11 (by decide) wl3 rfl rfl dX3_die_77 ?_
          refine lv_iload_n hx hb dX3_die_80 rfl (lv_at hl 4 rfl) ?_
          refine lv_iload hx hb dX3_die_81 (lv_at hl 0 rfl) ?_
          refine lv_if_eq (tgt := 90) hx hb dX3_die_83 (by decide) (fun c_5 => ?_) (fun c_5 => ?_)
          · have c_5 : (0 : Int32) = 0 := c_5
            refine lv_aload_n hx hb dX3_die_90 rfl (lv_at hl 1 rfl) ?_
            refine bv_get_f (ci := 3) (C := RX3) (T := TX3) (N := 21) hx hb hts hin3 hown hK hP (bv_c43 G _ _ _) rfl 11 (by decide) wl3 rfl rfl dX3_die_91 ?_
            refine lv_iload_n hx hb dX3_die_94 rfl (lv_at hl 4 rfl) ?_
            refine bv_iald hx hb hK hP 53 (bv_c53 G _ _ _) i (rfl) (by omega) (by decide) dX3_die_95 ?_
            refine bv_iast hx hb hK hP hS 53 (bv_c53 G _ _ _ ) i (rfl) (by omega) (by decide) (bv_s53 G _ _ _ _ _) dX3_die_96 (fun H locs hP hS => ?_)
            refine lv_iload_n hx hb dX3_die_97 rfl (lv_at hl 3 rfl) ?_
            refine lv_iload hx hb dX3_die_98 (lv_at hl 0 rfl) ?_
            refine lv_if_eq (tgt := 115) hx hb dX3_die_100 (by decide) (fun c_6 => ?_) (fun c_6 => ?_)
            · have c_6 : (0 : Int32) = 0 := c_6
              refine lv_iconst (v := 0) hx hb dX3_die_115 (by decide) ?_
              refine lv_iadd hx hb dX3_die_116 ?_
              refine lv_istore_n (lv' := [(2, .int ((bv_dc M q i) + 0)), (4, .int 0), (0, .ref (bv_a G 43)), (1, .int (nI q)), (3, .int (nI i))]) hx hb dX3_die_117 rfl hl (by decide) rfl (fun ls hl => ?_)
              refine lv_iinc (v := nI (i + 1)) (lv' := [(3, .int (nI (i + 1))), (2, .int ((bv_dc M q i) + 0)), (4, .int 0), (0, .ref (bv_a G 43)), (1, .int (nI q))]) hx hb dX3_die_118 hl (k := 4) rfl (nI_1 _) (by decide) rfl (fun ls hl => ?_)
              refine lv_goto (tgt := 44) hx hb dX3_die_121 (by decide) ?_
              have e_2 : (bv_dc M q i) + 0 = bv_dc M q (i + 1) := by rw [bv_dc_s]; first | rw [if_pos ⟨by assumption, by assumption⟩] | rw [if_neg (fun h => absurd h.2 (by assumption))] | rw [if_neg (fun h => absurd h.1 (by assumption))] | rw [if_neg (fun h => absurd (h.2.symm.trans (show M 9 i = 0 by assumption)) (by decide))]
              rw [e_2] at hl
              have hW : bv_H G S (bv_dp (bv_up M 1 q 1) q (i + 1)) (0, z.2) H := by
                first | (rw [← bv_dp_y (Y := bv_up M 1 q 1) ⟨by assumption, by assumption⟩]; exact hP) | (rw [bv_up_id rfl] at hP; rw [← bv_dp_n (Y := bv_up M 1 q 1) (fun h => h.1 (by assumption))]; exact hP) | (rw [bv_up_id rfl] at hP; rw [← bv_dp_n (Y := bv_up M 1 q 1) (fun h => absurd h.2 (by assumption))]; exact hP)
              exact ih (by omega) (trivial) _ _ _ hW hS (lv_sub hl [3, 4, 1, 0] rfl)
            · exact absurd c_6 (show ¬ (¬ (0 : Int32) = 0) from by decide)
          · exact absurd c_5 (show ¬ (¬ (0 : Int32) = 0) from by decide)
        · have c_4 : ¬ (M 9 i) = 0 := c_4
          refine lv_aload_n hx hb dX3_die_59 rfl (lv_at hl 0 rfl) ?_
          refine bv_get_f (ci := 3) (C := RX3) (T := TX3) (N := 21) hx hb hts hin3 hown hK hP (bv_c43 G _ _ _) rfl 6 (by decide) wl4 rfl rfl dX3_die_60 ?_
          refine lv_iload_n hx hb dX3_die_63 rfl (lv_at hl 3 rfl) ?_
          refine bv_iald hx hb hK hP 48 (bv_c48 G _ _ _) i (rfl) (by omega) (by decide) dX3_die_64 ?_
          refine lv_iload_n hx hb dX3_die_65 rfl (lv_at hl 1 rfl) ?_
          refine lv_icmp_ne (tgt := 73) hx hb dX3_die_66 (by decide) (fun c_7 => ?_) (fun c_7 => ?_)
          · have c_7 : ¬ (M 10 i) = (nI q) := c_7
            refine lv_iconst (v := 0) hx hb dX3_die_73 (by decide) ?_
            refine lv_istore (lv' := [(4, .int 0), (0, .ref (bv_a G 43)), (1, .int (nI q)), (2, .int (bv_dc M q i)), (3, .int (nI i))]) hx hb dX3_die_74 hl (by decide) rfl (fun ls hl => ?_)
            refine lv_aload_n hx hb dX3_die_76 rfl (lv_at hl 1 rfl) ?_
            refine bv_get_f (ci := 3) (C := RX3) (T := TX3) (N := 21) hx hb hts hin3 hown hK hP (bv_c43 G _ _ _) rfl 11 (by decide) wl3 rfl rfl dX3_die_77 ?_
            refine lv_iload_n hx hb dX3_die_80 rfl (lv_at hl 4 rfl) ?_
            refine lv_iload hx hb dX3_die_81 (lv_at hl 0 rfl) ?_
            refine lv_if_eq (tgt := 90) hx hb dX3_die_83 (by decide) (fun c_8 => ?_) (fun c_8 => ?_)
            · have c_8 : (0 : Int32) = 0 := c_8
              refine lv_aload_n hx hb dX3_die_90 rfl (lv_at hl 1 rfl) ?_
              refine bv_get_f (ci := 3) (C := RX3) (T := TX3) (N := 21) hx hb hts hin3 hown hK hP (bv_c43 G _ _ _) rfl 11 (by decide) wl3 rfl rfl dX3_die_91 ?_
              refine lv_iload_n hx hb dX3_die_94 rfl (lv_at hl 4 rfl) ?_
              refine bv_iald hx hb hK hP 53 (bv_c53 G _ _ _) i (rfl) (by omega) (by decide) dX3_die_95 ?_
              refine bv_iast hx hb hK hP hS 53 (bv_c53 G _ _ _ ) i (rfl) (by omega) (by decide) (bv_s53 G _ _ _ _ _) dX3_die_96 (fun H locs hP hS => ?_)
              refine lv_iload_n hx hb dX3_die_97 rfl (lv_at hl 3 rfl) ?_
              refine lv_iload hx hb dX3_die_98 (lv_at hl 0 rfl) ?_
              refine lv_if_eq (tgt := 115) hx hb dX3_die_100 (by decide) (fun c_9 => ?_) (fun c_9 => ?_)
              · have c_9 : (0 : Int32) = 0 := c_9
                refine lv_iconst (v := 0) hx hb dX3_die_115 (by decide) ?_
                refine lv_iadd hx hb dX3_die_116 ?_
                refine lv_istore_n (lv' := [(2, .int ((bv_dc M q i) + 0)), (4, .int 0), (0, .ref (bv_a G 43)), (1, .int (nI q)), (3, .int (nI i))]) hx hb dX3_die_117 rfl hl (by decide) rfl (fun ls hl => ?_)
                refine lv_iinc (v := nI (i + 1)) (lv' := [(3, .int (nI (i + 1))), (2, .int ((bv_dc M q i) + 0)), (4, .int 0), (0, .ref (bv_a G 43)), (1, .int (nI q))]) hx hb dX3_die_118 hl (k := 4) rfl (nI_1 _) (by decide) rfl (fun ls hl => ?_)
                refine lv_goto (tgt := 44) hx hb dX3_die_121 (by decide) ?_
                have e_2 : (bv_dc M q i) + 0 = bv_dc M q (i + 1) := by rw [bv_dc_s]; first | rw [if_pos ⟨by assumption, by assumption⟩] | rw [if_neg (fun h => absurd h.2 (by assumption))] | rw [if_neg (fun h => absurd h.1 (by assumption))] | rw [if_neg (fun h => absurd (h.2.symm.trans (show M 9 i = 0 by assumption)) (by decide))]
                rw [e_2] at hl
                have hW : bv_H G S (bv_dp (bv_up M 1 q 1) q (i + 1)) (0, z.2) H := by
                  first | (rw [← bv_dp_y (Y := bv_up M 1 q 1) ⟨by assumption, by assumption⟩]; exact hP) | (rw [bv_up_id rfl] at hP; rw [← bv_dp_n (Y := bv_up M 1 q 1) (fun h => h.1 (by assumption))]; exact hP) | (rw [bv_up_id rfl] at hP; rw [← bv_dp_n (Y := bv_up M 1 q 1) (fun h => absurd h.2 (by assumption))]; exact hP)
                exact ih (by omega) (trivial) _ _ _ hW hS (lv_sub hl [3, 4, 1, 0] rfl)
              · exact absurd c_9 (show ¬ (¬ (0 : Int32) = 0) from by decide)
            · exact absurd c_8 (show ¬ (¬ (0 : Int32) = 0) from by decide)
          · have c_7 : (M 10 i) = (nI q) := c_7
            refine lv_iconst (v := 1) hx hb dX3_die_69 (by decide) ?_
            refine lv_goto (tgt := 74) hx hb dX3_die_70 (by decide) ?_
            refine lv_istore (lv' := [(4, .int 1), (0, .ref (bv_a G 43)), (1, .int (nI q)), (2, .int (bv_dc M q i)), (3, .int (nI i))]) hx hb dX3_die_74 hl (by decide) rfl (fun ls hl => ?_)
            refine lv_aload_n hx hb dX3_die_76 rfl (lv_at hl 1 rfl) ?_
            refine bv_get_f (ci := 3) (C := RX3) (T := TX3) (N := 21) hx hb hts hin3 hown hK hP (bv_c43 G _ _ _) rfl 11 (by decide) wl3 rfl rfl dX3_die_77 ?_
            refine lv_iload_n hx hb dX3_die_80 rfl (lv_at hl 4 rfl) ?_
            refine lv_iload hx hb dX3_die_81 (lv_at hl 0 rfl) ?_
            refine lv_if_eq (tgt := 90) hx hb dX3_die_83 (by decide) (fun c_10 => ?_) (fun c_10 => ?_)
            · exact absurd c_10 (show ¬ ((1 : Int32) = 0) from by decide)
            · have c_10 : ¬ (1 : Int32) = 0 := c_10
              refine lv_iconst (v := 0) hx hb dX3_die_86 (by decide) ?_
              refine lv_goto (tgt := 96) hx hb dX3_die_87 (by decide) ?_
              refine bv_iast hx hb hK hP hS 53 (bv_c53 G _ _ _ ) i (rfl) (by omega) (by decide) (bv_s53 G _ _ _ _ _) dX3_die_96 (fun H locs hP hS => ?_)
              refine lv_iload_n hx hb dX3_die_97 rfl (lv_at hl 3 rfl) ?_
              refine lv_iload hx hb dX3_die_98 (lv_at hl 0 rfl) ?_
              refine lv_if_eq (tgt := 115) hx hb dX3_die_100 (by decide) (fun c_11 => ?_) (fun c_11 => ?_)
              · exact absurd c_11 (show ¬ ((1 : Int32) = 0) from by decide)
              · have c_11 : ¬ (1 : Int32) = 0 := c_11
                refine lv_aload_n hx hb dX3_die_103 rfl (lv_at hl 1 rfl) ?_
                refine lv_iload_n hx hb dX3_die_104 rfl (lv_at hl 4 rfl) ?_
                refine bv_ci (va_runV (As := [.int (nI i)]) (rest := [.int (bv_dc M q i)]) ⟨hx, hb, hml, hown, hts⟩ (c_X3_isRented l G S (bv_up (bv_dp (bv_up M 1 q 1) q i) 15 i 0) (0, z.2) i (by omega)) (cwV 1 hts gX3_die_X3_isRented rfl rfl rfl (by decide +kernel) ⟨Nat.le_of_ble_eq_true rfl, Nat.le_of_ble_eq_true rfl⟩) (bv_preV hz hP hK hE hS (ci := 3) (bv_c43 G _ _ _) rfl rfl) rfl rfl hl.1 rfl (lv_room (Nat.le_of_ble_eq_true rfl)) dX3_die_105 ⟨Nat.le_of_ble_eq_true rfl, Nat.le_of_ble_eq_true rfl⟩) hS (fun H locs hP hS => ?_)
                refine bv_eqi (y := bI (M 9 i = 1)) (rfl) ?_
                refine bv_ifeqB (tgt := 115) hx hb dX3_die_108 (by decide) (fun c_12 => ?_) (fun c_12 => ?_)
                · have c_12t := eq_false c_12
                  refine lv_iconst (v := 0) hx hb dX3_die_115 (by decide) ?_
                  refine lv_iadd hx hb dX3_die_116 ?_
                  refine lv_istore_n (lv' := [(2, .int ((bv_dc M q i) + 0)), (4, .int 1), (0, .ref (bv_a G 43)), (1, .int (nI q)), (3, .int (nI i))]) hx hb dX3_die_117 rfl hl (by decide) rfl (fun ls hl => ?_)
                  refine lv_iinc (v := nI (i + 1)) (lv' := [(3, .int (nI (i + 1))), (2, .int ((bv_dc M q i) + 0)), (4, .int 1), (0, .ref (bv_a G 43)), (1, .int (nI q))]) hx hb dX3_die_118 hl (k := 4) rfl (nI_1 _) (by decide) rfl (fun ls hl => ?_)
                  refine lv_goto (tgt := 44) hx hb dX3_die_121 (by decide) ?_
                  have e_2 : (bv_dc M q i) + 0 = bv_dc M q (i + 1) := by rw [bv_dc_s]; first | rw [if_pos ⟨by assumption, by assumption⟩] | rw [if_neg (fun h => absurd h.2 (by assumption))] | rw [if_neg (fun h => absurd h.1 (by assumption))] | rw [if_neg (fun h => absurd (h.2.symm.trans (show M 9 i = 0 by assumption)) (by decide))]
                  rw [e_2] at hl
                  have hW : bv_H G S (bv_dp (bv_up M 1 q 1) q (i + 1)) (0, z.2) H := by
                    first | (rw [← bv_dp_y (Y := bv_up M 1 q 1) ⟨by assumption, by assumption⟩]; exact hP) | (rw [bv_up_id rfl] at hP; rw [← bv_dp_n (Y := bv_up M 1 q 1) (fun h => h.1 (by assumption))]; exact hP) | (rw [bv_up_id rfl] at hP; rw [← bv_dp_n (Y := bv_up M 1 q 1) (fun h => absurd h.2 (by assumption))]; exact hP)
                  exact ih (by omega) (trivial) _ _ _ hW hS (lv_sub hl [3, 4, 1, 0] rfl)
                · have c_12t := eq_true c_12
                  refine lv_iconst (v := 1) hx hb dX3_die_111 (by decide) ?_
                  refine lv_goto (tgt := 116) hx hb dX3_die_112 (by decide) ?_
                  refine lv_iadd hx hb dX3_die_116 ?_
                  refine lv_istore_n (lv' := [(2, .int ((bv_dc M q i) + 1)), (4, .int 1), (0, .ref (bv_a G 43)), (1, .int (nI q)), (3, .int (nI i))]) hx hb dX3_die_117 rfl hl (by decide) rfl (fun ls hl => ?_)
                  refine lv_iinc (v := nI (i + 1)) (lv' := [(3, .int (nI (i + 1))), (2, .int ((bv_dc M q i) + 1)), (4, .int 1), (0, .ref (bv_a G 43)), (1, .int (nI q))]) hx hb dX3_die_118 hl (k := 4) rfl (nI_1 _) (by decide) rfl (fun ls hl => ?_)
                  refine lv_goto (tgt := 44) hx hb dX3_die_121 (by decide) ?_
                  have e_2 : (bv_dc M q i) + 1 = bv_dc M q (i + 1) := by rw [bv_dc_s]; first | rw [if_pos ⟨by assumption, by assumption⟩] | rw [if_neg (fun h => absurd h.2 (by assumption))] | rw [if_neg (fun h => absurd h.1 (by assumption))] | rw [if_neg (fun h => absurd (h.2.symm.trans (show M 9 i = 0 by assumption)) (by decide))]
                  rw [e_2] at hl
                  have hW : bv_H G S (bv_dp (bv_up M 1 q 1) q (i + 1)) (0, z.2) H := by
                    first | (rw [← bv_dp_y (Y := bv_up M 1 q 1) ⟨by assumption, by assumption⟩]; exact hP) | (rw [bv_up_id rfl] at hP; rw [← bv_dp_n (Y := bv_up M 1 q 1) (fun h => h.1 (by assumption))]; exact hP) | (rw [bv_up_id rfl] at hP; rw [← bv_dp_n (Y := bv_up M 1 q 1) (fun h => absurd h.2 (by assumption))]; exact hP)
                  exact ih (by omega) (trivial) _ _ _ hW hS (lv_sub hl [3, 4, 1, 0] rfl)
    · have c_2 : ¬ (M 1 q) = 0 := c_2
      refine lv_aload_n hx hb dX3_die_27 rfl (lv_at hl 0 rfl) ?_
      refine lv_iconst (v := 2) hx hb dX3_die_28 (by decide) ?_
      refine bv_ci (va_runV (As := [.int 2]) (rest := []) ⟨hx, hb, hml, hown, hts⟩ (c_X3_fails l G S M (0, z.2) 2 ) (cwV 1 hts gX3_die_X3_fails rfl rfl rfl (by decide +kernel) ⟨Nat.le_of_ble_eq_true rfl, Nat.le_of_ble_eq_true rfl⟩) (bv_preV hz hP hK hE hS (ci := 3) (bv_c43 G _ _ _) rfl rfl) rfl rfl hl.1 rfl (lv_room (Nat.le_of_ble_eq_true rfl)) dX3_die_29 ⟨Nat.le_of_ble_eq_true rfl, Nat.le_of_ble_eq_true rfl⟩) hS (fun H locs hP hS => ?_)
      have hW : bv_H G S ((sp_die M (nI q)).2.2) ((sp_die M (nI q)).1, z.2) H := by
        rw [show (sp_die M (nI q)).2.2 = M from by simp [sp_die, r_1, bv_cl hq (by decide : 16 < 2 ^ 31), c_2, bv_nb, bv_up_at, bv_fr12, bv_fr13]]
        rw [show (sp_die M (nI q)).1 = 2 from by simp [sp_die, r_1, bv_cl hq (by decide : 16 < 2 ^ 31), c_2, bv_nb, bv_up_at, bv_fr12, bv_fr13]]
        exact hP
      exact bv_iret hx hb hr hlocks hS (Nat.le_of_ble_eq_true rfl) (Nat.le_of_ble_eq_true rfl) dX3_die_32 (by first | (rw [ei]; simp [sp_die, r_1, bv_cl hq (by decide : 16 < 2 ^ 31), c_2, bv_nb, bv_up_at, bv_fr12, bv_fr13]) | simp [sp_die, r_1, bv_cl hq (by decide : 16 < 2 ^ 31), c_2, bv_nb, bv_up_at, bv_fr12, bv_fr13]) hW
  · have r_1 := bv_rb_f c_1
    refine lv_aload_n hx hb dX3_die_12 rfl (lv_at hl 0 rfl) ?_
    refine lv_iconst (v := 1) hx hb dX3_die_13 (by decide) ?_
    refine bv_ci (va_runV (As := [.int 1]) (rest := []) ⟨hx, hb, hml, hown, hts⟩ (c_X3_fails l G S M (0, z.2) 1 ) (cwV 1 hts gX3_die_X3_fails rfl rfl rfl (by decide +kernel) ⟨Nat.le_of_ble_eq_true rfl, Nat.le_of_ble_eq_true rfl⟩) (bv_preV hz hP hK hE hS (ci := 3) (bv_c43 G _ _ _) rfl rfl) rfl rfl hl.1 rfl (lv_room (Nat.le_of_ble_eq_true rfl)) dX3_die_14 ⟨Nat.le_of_ble_eq_true rfl, Nat.le_of_ble_eq_true rfl⟩) hS (fun H locs hP hS => ?_)
    have hW : bv_H G S ((sp_die M p0).2.2) ((sp_die M p0).1, z.2) H := by
      rw [show (sp_die M p0).2.2 = M from by simp [sp_die, r_1, bv_nb, bv_up_at, bv_fr12, bv_fr13]]
      rw [show (sp_die M p0).1 = 1 from by simp [sp_die, r_1, bv_nb, bv_up_at, bv_fr12, bv_fr13]]
      exact hP
    exact bv_iret hx hb hr hlocks hS (Nat.le_of_ble_eq_true rfl) (Nat.le_of_ble_eq_true rfl) dX3_die_17 (by first | (rw [ei]; simp [sp_die, r_1, bv_nb, bv_up_at, bv_fr12, bv_fr13]) | simp [sp_die, r_1, bv_nb, bv_up_at, bv_fr12, bv_fr13]) hW
set_option maxHeartbeats 4000000 in
set_option maxRecDepth 100000 in
theorem c_X3_order (l : Launch) (G : bv_G) (S M : bv_X) (z : bv_Z) (n : Nat) (p0 : Int32) (p1 : Int32) (p2 : Int32) (p3 : Int32) (hn : n ≤ 1000) (hI : bv_I n M) : bv_M l yX3_order wsX3_order ({ frames := 2, cells := 0, slots := 0, locals := 42 }) [.ref (bv_a G 43), .int p0, .int p1, .int p2, .int p3] G S M z ((sp_order M p0 p1 p2 p3).2.1) S ((sp_order M p0 p1 p2 p3).2.2) ((sp_order M p0 p1 p2 p3).1, z.2) := by
  refine Met.ofW (cc := cX3_order) (maxL := 5) (ret := (some .int)) (by decide) rfl ?_
  intro p e s m args below meth c s₁ B hml hv
  obtain ⟨rfl, hz, hP, hK, hE⟩ := hv
  have hx := B.exec
  have hb := B.bytes
  have hr := B.returns
  have hts := atoms_spec (ws := wsX3_order) B.pre
  have hown : s.vm.findClass RX3 = some m.cls := findClass_of_methodNamed B.named
  have hlocks := B.notSynchronized
  have hS : va_S (bv_A G) s.heap s.heap [] := va_S.rf
  have wl0 := hts (.fieldLink RX3 65 "BoxVaultModel" "thrown" "I") (by decide +kernel)
  have wl1 := hts (.fieldLink RX3 20 "BoxVaultModel" "state" "[I") (by decide +kernel)
  have wl2 := hts (.fieldLink RX3 84 "BoxVaultModel" "orders" "I") (by decide +kernel)
  have wl3 := hts (.fieldLink RX3 50 "BoxVaultModel" "at" "[I") (by decide +kernel)
  have wl4 := hts (.fieldLink RX3 53 "BoxVaultModel" "court" "[I") (by decide +kernel)
  have wl5 := hts (.fieldLink RX3 56 "BoxVaultModel" "kind" "[I") (by decide +kernel)
  have wl6 := hts (.fieldLink RX3 59 "BoxVaultModel" "alone" "[I") (by decide +kernel)
  have wl7 := hts (.fieldLink RX3 62 "BoxVaultModel" "holds" "[Z") (by decide +kernel)
  have hin3 : ∀ w ∈ wsX30, w ∈ wsX3_order := (fun w h => List.mem_cons_of_mem _ (List.mem_append_right _ h))
  have hl := lv_entry ([.ref (bv_a G 43), .int p0, .int p1, .int p2, .int p3]) (n := 5) (Nat.le_of_ble_eq_true rfl)
  rw [lg_entry_eq]
  generalize (lg_sl ([.ref (bv_a G 43), .int p0, .int p1, .int p2, .int p3]) ++ List.replicate (5 - (lg_sl ([.ref (bv_a G 43), .int p0, .int p1, .int p2, .int p3])).length) Slot.unset).toArray = ls at hl ⊢
  have hl : lv_has ls 5 [(0, .ref (bv_a G 43)), (1, .int p0), (2, .int p1), (3, .int p2), (4, .int p3)] := hl
  obtain ⟨cn, hc, ec⟩ := bv_I_cnt hI
  have ecn : (M 0 1).toNatClampNeg = cn := by rw [ec]; exact nI_clamp (by omega)
  refine lv_aload_n hx hb dX3_order_0 rfl (lv_at hl 0 rfl) ?_
  refine lv_iconst (v := 0) hx hb dX3_order_1 (by decide) ?_
  refine bv_put_f (ci := 3) (C := RX3) (T := TX3) (N := 21) (ty := .int) hx hb hts hin3 tyX3 tyX3_ok nmX3 hown hK hP hS (bv_c43 G _ _ _) rfl 0 (by decide) wl0 rfl rfl rfl rfl rfl (Nat.le_of_ble_eq_true rfl) rfl (bv_sth G _ _ _ _) dX3_order_2 (fun H locs hP hS => ?_)
  refine lv_iload_n hx hb dX3_order_5 rfl (lv_at hl 1 rfl) ?_
  refine bv_ci (va_runS (As := [.int p0]) (rest := []) ⟨hx, hb, hml, hown, hts⟩ (c_X3_isBox l G S M (0, z.2) p0 ) (va_cwS 1 hts gX3_order_X3_isBox rfl rfl rfl (by decide +kernel) ⟨Nat.le_of_ble_eq_true rfl, Nat.le_of_ble_eq_true rfl⟩) (bv_preS hz hP hK hE hS) rfl rfl hl.1 rfl (lv_room (Nat.le_of_ble_eq_true rfl)) dX3_order_6 ⟨Nat.le_of_ble_eq_true rfl, Nat.le_of_ble_eq_true rfl⟩) hS (fun H locs hP hS => ?_)
  refine bv_ifeqB (tgt := 43) hx hb dX3_order_9 (by decide) (fun c_1 => ?_) (fun c_1 => ?_)
  · have r_1 := bv_rb_f c_1
    refine lv_aload_n hx hb dX3_order_43 rfl (lv_at hl 0 rfl) ?_
    refine lv_iconst (v := 1) hx hb dX3_order_44 (by decide) ?_
    refine bv_ci (va_runV (As := [.int 1]) (rest := []) ⟨hx, hb, hml, hown, hts⟩ (c_X3_fails l G S M (0, z.2) 1 ) (cwV 1 hts gX3_order_X3_fails rfl rfl rfl (by decide +kernel) ⟨Nat.le_of_ble_eq_true rfl, Nat.le_of_ble_eq_true rfl⟩) (bv_preV hz hP hK hE hS (ci := 3) (bv_c43 G _ _ _) rfl rfl) rfl rfl hl.1 rfl (lv_room (Nat.le_of_ble_eq_true rfl)) dX3_order_45 ⟨Nat.le_of_ble_eq_true rfl, Nat.le_of_ble_eq_true rfl⟩) hS (fun H locs hP hS => ?_)
    have hW : bv_H G S ((sp_order M p0 p1 p2 p3).2.2) ((sp_order M p0 p1 p2 p3).1, z.2) H := by
      rw [show (sp_order M p0 p1 p2 p3).2.2 = M from by simp [sp_order, r_1, bv_nb, bv_up_at, bv_fr12, bv_fr13, ecn]]
      rw [show (sp_order M p0 p1 p2 p3).1 = 1 from by simp [sp_order, r_1, bv_nb, bv_up_at, bv_fr12, bv_fr13, ecn]]
      exact hP
    exact bv_iret hx hb hr hlocks hS (Nat.le_of_ble_eq_true rfl) (Nat.le_of_ble_eq_true rfl) dX3_order_48 (by simp [sp_order, r_1, bv_nb, bv_up_at, bv_fr12, bv_fr13, ecn]) hW
  · have r_1 := bv_rb_t c_1
    obtain ⟨j, hj, ej⟩ := bv_of8 c_1
    subst ej
    refine lv_iload_n hx hb dX3_order_12 rfl (lv_at hl 2 rfl) ?_
    refine lv_iconst (v := 0) hx hb dX3_order_13 (by decide) ?_
    refine lv_iconst (v := 1) hx hb dX3_order_14 (by decide) ?_
    refine bv_ci (va_runS (As := [.int p1, .int 0, .int 1]) (rest := []) ⟨hx, hb, hml, hown, hts⟩ (c_X3_in l G S M (0, z.2) p1 0 1 ) (va_cwS 3 hts gX3_order_X3_in rfl rfl rfl (by decide +kernel) ⟨Nat.le_of_ble_eq_true rfl, Nat.le_of_ble_eq_true rfl⟩) (bv_preS hz hP hK hE hS) rfl rfl hl.1 rfl (lv_room (Nat.le_of_ble_eq_true rfl)) dX3_order_15 ⟨Nat.le_of_ble_eq_true rfl, Nat.le_of_ble_eq_true rfl⟩) hS (fun H locs hP hS => ?_)
    refine bv_ifeqB (tgt := 43) hx hb dX3_order_18 (by decide) (fun c_2 => ?_) (fun c_2 => ?_)
    · have r_2 := bv_rb_f c_2
      refine lv_aload_n hx hb dX3_order_43 rfl (lv_at hl 0 rfl) ?_
      refine lv_iconst (v := 1) hx hb dX3_order_44 (by decide) ?_
      refine bv_ci (va_runV (As := [.int 1]) (rest := []) ⟨hx, hb, hml, hown, hts⟩ (c_X3_fails l G S M (0, z.2) 1 ) (cwV 1 hts gX3_order_X3_fails rfl rfl rfl (by decide +kernel) ⟨Nat.le_of_ble_eq_true rfl, Nat.le_of_ble_eq_true rfl⟩) (bv_preV hz hP hK hE hS (ci := 3) (bv_c43 G _ _ _) rfl rfl) rfl rfl hl.1 rfl (lv_room (Nat.le_of_ble_eq_true rfl)) dX3_order_45 ⟨Nat.le_of_ble_eq_true rfl, Nat.le_of_ble_eq_true rfl⟩) hS (fun H locs hP hS => ?_)
      have hW : bv_H G S ((sp_order M (nI j) p1 p2 p3).2.2) ((sp_order M (nI j) p1 p2 p3).1, z.2) H := by
        rw [show (sp_order M (nI j) p1 p2 p3).2.2 = M from by simp [sp_order, r_1, bv_cl hj (by decide : 8 < 2 ^ 31), r_2, bv_nb, bv_up_at, bv_fr12, bv_fr13, ecn]]
        rw [show (sp_order M (nI j) p1 p2 p3).1 = 1 from by simp [sp_order, r_1, bv_cl hj (by decide : 8 < 2 ^ 31), r_2, bv_nb, bv_up_at, bv_fr12, bv_fr13, ecn]]
        exact hP
      exact bv_iret hx hb hr hlocks hS (Nat.le_of_ble_eq_true rfl) (Nat.le_of_ble_eq_true rfl) dX3_order_48 (by simp [sp_order, r_1, bv_cl hj (by decide : 8 < 2 ^ 31), r_2, bv_nb, bv_up_at, bv_fr12, bv_fr13, ecn]) hW
    · have r_2 := bv_rb_t c_2
      refine lv_iload_n hx hb dX3_order_21 rfl (lv_at hl 3 rfl) ?_
      refine lv_iconst (v := 0) hx hb dX3_order_22 (by decide) ?_
      refine lv_iconst (v := 2) hx hb dX3_order_23 (by decide) ?_
      refine bv_ci (va_runS (As := [.int p2, .int 0, .int 2]) (rest := []) ⟨hx, hb, hml, hown, hts⟩ (c_X3_in l G S M (0, z.2) p2 0 2 ) (va_cwS 3 hts gX3_order_X3_in rfl rfl rfl (by decide +kernel) ⟨Nat.le_of_ble_eq_true rfl, Nat.le_of_ble_eq_true rfl⟩) (bv_preS hz hP hK hE hS) rfl rfl hl.1 rfl (lv_room (Nat.le_of_ble_eq_true rfl)) dX3_order_24 ⟨Nat.le_of_ble_eq_true rfl, Nat.le_of_ble_eq_true rfl⟩) hS (fun H locs hP hS => ?_)
      refine bv_ifeqB (tgt := 43) hx hb dX3_order_27 (by decide) (fun c_3 => ?_) (fun c_3 => ?_)
      · have r_3 := bv_rb_f c_3
        refine lv_aload_n hx hb dX3_order_43 rfl (lv_at hl 0 rfl) ?_
        refine lv_iconst (v := 1) hx hb dX3_order_44 (by decide) ?_
        refine bv_ci (va_runV (As := [.int 1]) (rest := []) ⟨hx, hb, hml, hown, hts⟩ (c_X3_fails l G S M (0, z.2) 1 ) (cwV 1 hts gX3_order_X3_fails rfl rfl rfl (by decide +kernel) ⟨Nat.le_of_ble_eq_true rfl, Nat.le_of_ble_eq_true rfl⟩) (bv_preV hz hP hK hE hS (ci := 3) (bv_c43 G _ _ _) rfl rfl) rfl rfl hl.1 rfl (lv_room (Nat.le_of_ble_eq_true rfl)) dX3_order_45 ⟨Nat.le_of_ble_eq_true rfl, Nat.le_of_ble_eq_true rfl⟩) hS (fun H locs hP hS => ?_)
        have hW : bv_H G S ((sp_order M (nI j) p1 p2 p3).2.2) ((sp_order M (nI j) p1 p2 p3).1, z.2) H := by
          rw [show (sp_order M (nI j) p1 p2 p3).2.2 = M from by simp [sp_order, r_1, bv_cl hj (by decide : 8 < 2 ^ 31), r_2, r_3, bv_nb, bv_up_at, bv_fr12, bv_fr13, ecn]]
          rw [show (sp_order M (nI j) p1 p2 p3).1 = 1 from by simp [sp_order, r_1, bv_cl hj (by decide : 8 < 2 ^ 31), r_2, r_3, bv_nb, bv_up_at, bv_fr12, bv_fr13, ecn]]
          exact hP
        exact bv_iret hx hb hr hlocks hS (Nat.le_of_ble_eq_true rfl) (Nat.le_of_ble_eq_true rfl) dX3_order_48 (by simp [sp_order, r_1, bv_cl hj (by decide : 8 < 2 ^ 31), r_2, r_3, bv_nb, bv_up_at, bv_fr12, bv_fr13, ecn]) hW
      · have r_3 := bv_rb_t c_3
        refine lv_iload_n hx hb dX3_order_30 rfl (lv_at hl 3 rfl) ?_
        refine lv_iconst (v := 1) hx hb dX3_order_31 (by decide) ?_
        refine lv_icmp_ne (tgt := 49) hx hb dX3_order_32 (by decide) (fun c_4 => ?_) (fun c_4 => ?_)
        · have c_4 : ¬ p2 = 1 := c_4
          refine lv_aload_n hx hb dX3_order_49 rfl (lv_at hl 0 rfl) ?_
          refine bv_get_f (ci := 3) (C := RX3) (T := TX3) (N := 21) hx hb hts hin3 hown hK hP (bv_c43 G _ _ _) rfl 5 (by decide) wl1 rfl rfl dX3_order_50 ?_
          refine lv_iload_n hx hb dX3_order_53 rfl (lv_at hl 1 rfl) ?_
          refine bv_iald hx hb hK hP 47 (bv_c47 G _ _ _) j (rfl) (hj) (by decide) dX3_order_54 ?_
          refine lv_if_eq (tgt := 67) hx hb dX3_order_55 (by decide) (fun c_5 => ?_) (fun c_5 => ?_)
          · have c_5 : (M 9 j) = 0 := c_5
            refine lv_aload_n hx hb dX3_order_67 rfl (lv_at hl 0 rfl) ?_
            refine lv_iconst (v := 2) hx hb dX3_order_68 (by decide) ?_
            refine bv_ci (va_runV (As := [.int 2]) (rest := []) ⟨hx, hb, hml, hown, hts⟩ (c_X3_fails l G S M (0, z.2) 2 ) (cwV 1 hts gX3_order_X3_fails rfl rfl rfl (by decide +kernel) ⟨Nat.le_of_ble_eq_true rfl, Nat.le_of_ble_eq_true rfl⟩) (bv_preV hz hP hK hE hS (ci := 3) (bv_c43 G _ _ _) rfl rfl) rfl rfl hl.1 rfl (lv_room (Nat.le_of_ble_eq_true rfl)) dX3_order_69 ⟨Nat.le_of_ble_eq_true rfl, Nat.le_of_ble_eq_true rfl⟩) hS (fun H locs hP hS => ?_)
            have hW : bv_H G S ((sp_order M (nI j) p1 p2 p3).2.2) ((sp_order M (nI j) p1 p2 p3).1, z.2) H := by
              rw [show (sp_order M (nI j) p1 p2 p3).2.2 = M from by simp [sp_order, r_1, bv_cl hj (by decide : 8 < 2 ^ 31), r_2, r_3, c_4, c_5, bv_nb, bv_up_at, bv_fr12, bv_fr13, ecn]]
              rw [show (sp_order M (nI j) p1 p2 p3).1 = 2 from by simp [sp_order, r_1, bv_cl hj (by decide : 8 < 2 ^ 31), r_2, r_3, c_4, c_5, bv_nb, bv_up_at, bv_fr12, bv_fr13, ecn]]
              exact hP
            exact bv_iret hx hb hr hlocks hS (Nat.le_of_ble_eq_true rfl) (Nat.le_of_ble_eq_true rfl) dX3_order_72 (by simp [sp_order, r_1, bv_cl hj (by decide : 8 < 2 ^ 31), r_2, r_3, c_4, c_5, bv_nb, bv_up_at, bv_fr12, bv_fr13, ecn]) hW
          · have c_5 : ¬ (M 9 j) = 0 := c_5
            refine lv_aload_n hx hb dX3_order_58 rfl (lv_at hl 0 rfl) ?_
            refine bv_get_f (ci := 3) (C := RX3) (T := TX3) (N := 21) hx hb hts hin3 hown hK hP (bv_c43 G _ _ _) rfl 15 (by decide) wl2 rfl rfl dX3_order_59 ?_
            refine lv_bipush (v := 30) hx hb dX3_order_62 (by decide) ?_
            refine lv_icmp_ne (tgt := 73) hx hb dX3_order_64 (by decide) (fun c_6 => ?_) (fun c_6 => ?_)
            · have c_6 : ¬ (M 0 1) = 30 := c_6
              have hlt30 : cn < 30 := bv_lt_ne (b := 30) ec hc (by assumption)
              refine lv_aload_n hx hb dX3_order_73 rfl (lv_at hl 0 rfl) ?_
              refine bv_get_f (ci := 3) (C := RX3) (T := TX3) (N := 21) hx hb hts hin3 hown hK hP (bv_c43 G _ _ _) rfl 16 (by decide) wl3 rfl rfl dX3_order_74 ?_
              refine lv_aload_n hx hb dX3_order_77 rfl (lv_at hl 0 rfl) ?_
              refine bv_get_f (ci := 3) (C := RX3) (T := TX3) (N := 21) hx hb hts hin3 hown hK hP (bv_c43 G _ _ _) rfl 15 (by decide) wl2 rfl rfl dX3_order_78 ?_
              refine lv_iload_n hx hb dX3_order_81 rfl (lv_at hl 1 rfl) ?_
              refine bv_iast hx hb hK hP hS 57 (bv_c57 G _ _ _ ) cn (ec) (by omega) (by decide) (bv_s57 G _ _ _ _ _) dX3_order_82 (fun H locs hP hS => ?_)
              refine lv_aload_n hx hb dX3_order_83 rfl (lv_at hl 0 rfl) ?_
              refine bv_get_f (ci := 3) (C := RX3) (T := TX3) (N := 21) hx hb hts hin3 hown hK hP (bv_c43 G _ _ _) rfl 17 (by decide) wl4 rfl rfl dX3_order_84 ?_
              refine lv_aload_n hx hb dX3_order_87 rfl (lv_at hl 0 rfl) ?_
              refine bv_get_f (ci := 3) (C := RX3) (T := TX3) (N := 21) hx hb hts hin3 hown hK hP (bv_c43 G _ _ _) rfl 15 (by decide) wl2 rfl rfl dX3_order_88 ?_
              refine lv_iload_n hx hb dX3_order_91 rfl (lv_at hl 2 rfl) ?_
              refine bv_iast hx hb hK hP hS 58 (bv_c58 G _ _ _ ) cn (ec) (by omega) (by decide) (bv_s58 G _ _ _ _ _) dX3_order_92 (fun H locs hP hS => ?_)
              refine lv_aload_n hx hb dX3_order_93 rfl (lv_at hl 0 rfl) ?_
              refine bv_get_f (ci := 3) (C := RX3) (T := TX3) (N := 21) hx hb hts hin3 hown hK hP (bv_c43 G _ _ _) rfl 18 (by decide) wl5 rfl rfl dX3_order_94 ?_
              refine lv_aload_n hx hb dX3_order_97 rfl (lv_at hl 0 rfl) ?_
              refine bv_get_f (ci := 3) (C := RX3) (T := TX3) (N := 21) hx hb hts hin3 hown hK hP (bv_c43 G _ _ _) rfl 15 (by decide) wl2 rfl rfl dX3_order_98 ?_
              refine lv_iload_n hx hb dX3_order_101 rfl (lv_at hl 3 rfl) ?_
              refine bv_iast hx hb hK hP hS 59 (bv_c59 G _ _ _ ) cn (ec) (by omega) (by decide) (bv_s59 G _ _ _ _ _) dX3_order_102 (fun H locs hP hS => ?_)
              refine lv_aload_n hx hb dX3_order_103 rfl (lv_at hl 0 rfl) ?_
              refine bv_get_f (ci := 3) (C := RX3) (T := TX3) (N := 21) hx hb hts hin3 hown hK hP (bv_c43 G _ _ _) rfl 19 (by decide) wl6 rfl rfl dX3_order_104 ?_
              refine lv_aload_n hx hb dX3_order_107 rfl (lv_at hl 0 rfl) ?_
              refine bv_get_f (ci := 3) (C := RX3) (T := TX3) (N := 21) hx hb hts hin3 hown hK hP (bv_c43 G _ _ _) rfl 15 (by decide) wl2 rfl rfl dX3_order_108 ?_
              refine lv_iload hx hb dX3_order_111 (lv_at hl 4 rfl) ?_
              refine bv_iast hx hb hK hP hS 60 (bv_c60 G _ _ _ ) cn (ec) (by omega) (by decide) (bv_s60 G _ _ _ _ _) dX3_order_113 (fun H locs hP hS => ?_)
              refine lv_aload_n hx hb dX3_order_114 rfl (lv_at hl 0 rfl) ?_
              refine bv_get_f (ci := 3) (C := RX3) (T := TX3) (N := 21) hx hb hts hin3 hown hK hP (bv_c43 G _ _ _) rfl 20 (by decide) wl7 rfl rfl dX3_order_115 ?_
              refine lv_aload_n hx hb dX3_order_118 rfl (lv_at hl 0 rfl) ?_
              refine bv_get_f (ci := 3) (C := RX3) (T := TX3) (N := 21) hx hb hts hin3 hown hK hP (bv_c43 G _ _ _) rfl 15 (by decide) wl2 rfl rfl dX3_order_119 ?_
              refine lv_iconst (v := 1) hx hb dX3_order_122 (by decide) ?_
              refine bv_zast hx hb hK hP hS 61 (bv_c61 G _ _ _ ) cn (ec) (by omega) (by decide) (rfl) (bv_s61 G _ _ _ _ _) dX3_order_123 (fun H locs hP hS => ?_)
              refine lv_aload_n hx hb dX3_order_124 rfl (lv_at hl 0 rfl) ?_
              refine lv_dup hx hb dX3_order_125 rfl ?_
              refine bv_get_f (ci := 3) (C := RX3) (T := TX3) (N := 21) hx hb hts hin3 hown hK hP (bv_c43 G _ _ _) rfl 15 (by decide) wl2 rfl rfl dX3_order_126 ?_
              refine lv_iconst (v := 1) hx hb dX3_order_129 (by decide) ?_
              refine lv_iadd hx hb dX3_order_130 ?_
              refine bv_put_f (ci := 3) (C := RX3) (T := TX3) (N := 21) (ty := .int) hx hb hts hin3 tyX3 tyX3_ok nmX3 hown hK hP hS (bv_c43 G _ _ _) rfl 15 (by decide) wl2 rfl rfl rfl rfl rfl (Nat.le_of_ble_eq_true rfl) rfl (bv_sord G _ _ _ _) dX3_order_131 (fun H locs hP hS => ?_)
              refine lv_aload_n hx hb dX3_order_134 rfl (lv_at hl 0 rfl) ?_
              refine bv_get_f (ci := 3) (C := RX3) (T := TX3) (N := 21) hx hb hts hin3 hown hK hP (bv_c43 G _ _ _) rfl 15 (by decide) wl2 rfl rfl dX3_order_135 ?_
              refine lv_iconst (v := 1) hx hb dX3_order_138 (by decide) ?_
              refine lv_isub hx hb dX3_order_139 ?_
              have hW : bv_H G S ((sp_order M (nI j) p1 p2 p3).2.2) ((sp_order M (nI j) p1 p2 p3).1, z.2) H := by
                rw [show (sp_order M (nI j) p1 p2 p3).2.2 = bv_up (bv_up (bv_up (bv_up (bv_up (bv_up M 4 cn (nI j)) 5 cn p1) 6 cn p2) 7 cn p3) 8 cn 1) 0 1 ((M 0 1) + 1) from by simp [sp_order, r_1, bv_cl hj (by decide : 8 < 2 ^ 31), r_2, r_3, c_4, c_5, c_6, bv_nb, bv_up_at, bv_fr12, bv_fr13, ecn]]
                rw [show (sp_order M (nI j) p1 p2 p3).1 = 0 from by simp [sp_order, r_1, bv_cl hj (by decide : 8 < 2 ^ 31), r_2, r_3, c_4, c_5, c_6, bv_nb, bv_up_at, bv_fr12, bv_fr13, ecn]]
                exact hP
              exact bv_iret hx hb hr hlocks hS (Nat.le_of_ble_eq_true rfl) (Nat.le_of_ble_eq_true rfl) dX3_order_140 (by simp [sp_order, r_1, bv_cl hj (by decide : 8 < 2 ^ 31), r_2, r_3, c_4, c_5, c_6, bv_nb, bv_up_at, bv_fr12, bv_fr13, ecn]) hW
            · have c_6 : (M 0 1) = 30 := c_6
              refine lv_aload_n hx hb dX3_order_67 rfl (lv_at hl 0 rfl) ?_
              refine lv_iconst (v := 2) hx hb dX3_order_68 (by decide) ?_
              refine bv_ci (va_runV (As := [.int 2]) (rest := []) ⟨hx, hb, hml, hown, hts⟩ (c_X3_fails l G S M (0, z.2) 2 ) (cwV 1 hts gX3_order_X3_fails rfl rfl rfl (by decide +kernel) ⟨Nat.le_of_ble_eq_true rfl, Nat.le_of_ble_eq_true rfl⟩) (bv_preV hz hP hK hE hS (ci := 3) (bv_c43 G _ _ _) rfl rfl) rfl rfl hl.1 rfl (lv_room (Nat.le_of_ble_eq_true rfl)) dX3_order_69 ⟨Nat.le_of_ble_eq_true rfl, Nat.le_of_ble_eq_true rfl⟩) hS (fun H locs hP hS => ?_)
              have hW : bv_H G S ((sp_order M (nI j) p1 p2 p3).2.2) ((sp_order M (nI j) p1 p2 p3).1, z.2) H := by
                rw [show (sp_order M (nI j) p1 p2 p3).2.2 = M from by simp [sp_order, r_1, bv_cl hj (by decide : 8 < 2 ^ 31), r_2, r_3, c_4, c_5, c_6, bv_nb, bv_up_at, bv_fr12, bv_fr13, ecn]]
                rw [show (sp_order M (nI j) p1 p2 p3).1 = 2 from by simp [sp_order, r_1, bv_cl hj (by decide : 8 < 2 ^ 31), r_2, r_3, c_4, c_5, c_6, bv_nb, bv_up_at, bv_fr12, bv_fr13, ecn]]
                exact hP
              exact bv_iret hx hb hr hlocks hS (Nat.le_of_ble_eq_true rfl) (Nat.le_of_ble_eq_true rfl) dX3_order_72 (by simp [sp_order, r_1, bv_cl hj (by decide : 8 < 2 ^ 31), r_2, r_3, c_4, c_5, c_6, bv_nb, bv_up_at, bv_fr12, bv_fr13, ecn]) hW
        · have c_4 : p2 = 1 := c_4
          subst c_4
          refine lv_iload hx hb dX3_order_35 (lv_at hl 4 rfl) ?_
          refine bv_ci (va_runS (As := [.int p3]) (rest := []) ⟨hx, hb, hml, hown, hts⟩ (c_X3_isPerson l G S M (0, z.2) p3 ) (va_cwS 1 hts gX3_order_X3_isPerson rfl rfl rfl (by decide +kernel) ⟨Nat.le_of_ble_eq_true rfl, Nat.le_of_ble_eq_true rfl⟩) (bv_preS hz hP hK hE hS) rfl rfl hl.1 rfl (lv_room (Nat.le_of_ble_eq_true rfl)) dX3_order_37 ⟨Nat.le_of_ble_eq_true rfl, Nat.le_of_ble_eq_true rfl⟩) hS (fun H locs hP hS => ?_)
          refine bv_ifneB (tgt := 49) hx hb dX3_order_40 (by decide) (fun c_7 => ?_) (fun c_7 => ?_)
          · have r_7 := bv_rb_t c_7
            refine lv_aload_n hx hb dX3_order_49 rfl (lv_at hl 0 rfl) ?_
            refine bv_get_f (ci := 3) (C := RX3) (T := TX3) (N := 21) hx hb hts hin3 hown hK hP (bv_c43 G _ _ _) rfl 5 (by decide) wl1 rfl rfl dX3_order_50 ?_
            refine lv_iload_n hx hb dX3_order_53 rfl (lv_at hl 1 rfl) ?_
            refine bv_iald hx hb hK hP 47 (bv_c47 G _ _ _) j (rfl) (hj) (by decide) dX3_order_54 ?_
            refine lv_if_eq (tgt := 67) hx hb dX3_order_55 (by decide) (fun c_8 => ?_) (fun c_8 => ?_)
            · have c_8 : (M 9 j) = 0 := c_8
              refine lv_aload_n hx hb dX3_order_67 rfl (lv_at hl 0 rfl) ?_
              refine lv_iconst (v := 2) hx hb dX3_order_68 (by decide) ?_
              refine bv_ci (va_runV (As := [.int 2]) (rest := []) ⟨hx, hb, hml, hown, hts⟩ (c_X3_fails l G S M (0, z.2) 2 ) (cwV 1 hts gX3_order_X3_fails rfl rfl rfl (by decide +kernel) ⟨Nat.le_of_ble_eq_true rfl, Nat.le_of_ble_eq_true rfl⟩) (bv_preV hz hP hK hE hS (ci := 3) (bv_c43 G _ _ _) rfl rfl) rfl rfl hl.1 rfl (lv_room (Nat.le_of_ble_eq_true rfl)) dX3_order_69 ⟨Nat.le_of_ble_eq_true rfl, Nat.le_of_ble_eq_true rfl⟩) hS (fun H locs hP hS => ?_)
              have hW : bv_H G S ((sp_order M (nI j) p1 1 p3).2.2) ((sp_order M (nI j) p1 1 p3).1, z.2) H := by
                rw [show (sp_order M (nI j) p1 1 p3).2.2 = M from by simp [sp_order, r_1, bv_cl hj (by decide : 8 < 2 ^ 31), r_2, r_3, r_7, c_8, bv_nb, bv_up_at, bv_fr12, bv_fr13, ecn]]
                rw [show (sp_order M (nI j) p1 1 p3).1 = 2 from by simp [sp_order, r_1, bv_cl hj (by decide : 8 < 2 ^ 31), r_2, r_3, r_7, c_8, bv_nb, bv_up_at, bv_fr12, bv_fr13, ecn]]
                exact hP
              exact bv_iret hx hb hr hlocks hS (Nat.le_of_ble_eq_true rfl) (Nat.le_of_ble_eq_true rfl) dX3_order_72 (by simp [sp_order, r_1, bv_cl hj (by decide : 8 < 2 ^ 31), r_2, r_3, r_7, c_8, bv_nb, bv_up_at, bv_fr12, bv_fr13, ecn]) hW
            · have c_8 : ¬ (M 9 j) = 0 := c_8
              refine lv_aload_n hx hb dX3_order_58 rfl (lv_at hl 0 rfl) ?_
              refine bv_get_f (ci := 3) (C := RX3) (T := TX3) (N := 21) hx hb hts hin3 hown hK hP (bv_c43 G _ _ _) rfl 15 (by decide) wl2 rfl rfl dX3_order_59 ?_
              refine lv_bipush (v := 30) hx hb dX3_order_62 (by decide) ?_
              refine lv_icmp_ne (tgt := 73) hx hb dX3_order_64 (by decide) (fun c_9 => ?_) (fun c_9 => ?_)
              · have c_9 : ¬ (M 0 1) = 30 := c_9
                have hlt30 : cn < 30 := bv_lt_ne (b := 30) ec hc (by assumption)
                refine lv_aload_n hx hb dX3_order_73 rfl (lv_at hl 0 rfl) ?_
                refine bv_get_f (ci := 3) (C := RX3) (T := TX3) (N := 21) hx hb hts hin3 hown hK hP (bv_c43 G _ _ _) rfl 16 (by decide) wl3 rfl rfl dX3_order_74 ?_
                refine lv_aload_n hx hb dX3_order_77 rfl (lv_at hl 0 rfl) ?_
                refine bv_get_f (ci := 3) (C := RX3) (T := TX3) (N := 21) hx hb hts hin3 hown hK hP (bv_c43 G _ _ _) rfl 15 (by decide) wl2 rfl rfl dX3_order_78 ?_
                refine lv_iload_n hx hb dX3_order_81 rfl (lv_at hl 1 rfl) ?_
                refine bv_iast hx hb hK hP hS 57 (bv_c57 G _ _ _ ) cn (ec) (by omega) (by decide) (bv_s57 G _ _ _ _ _) dX3_order_82 (fun H locs hP hS => ?_)
                refine lv_aload_n hx hb dX3_order_83 rfl (lv_at hl 0 rfl) ?_
                refine bv_get_f (ci := 3) (C := RX3) (T := TX3) (N := 21) hx hb hts hin3 hown hK hP (bv_c43 G _ _ _) rfl 17 (by decide) wl4 rfl rfl dX3_order_84 ?_
                refine lv_aload_n hx hb dX3_order_87 rfl (lv_at hl 0 rfl) ?_
                refine bv_get_f (ci := 3) (C := RX3) (T := TX3) (N := 21) hx hb hts hin3 hown hK hP (bv_c43 G _ _ _) rfl 15 (by decide) wl2 rfl rfl dX3_order_88 ?_
                refine lv_iload_n hx hb dX3_order_91 rfl (lv_at hl 2 rfl) ?_
                refine bv_iast hx hb hK hP hS 58 (bv_c58 G _ _ _ ) cn (ec) (by omega) (by decide) (bv_s58 G _ _ _ _ _) dX3_order_92 (fun H locs hP hS => ?_)
                refine lv_aload_n hx hb dX3_order_93 rfl (lv_at hl 0 rfl) ?_
                refine bv_get_f (ci := 3) (C := RX3) (T := TX3) (N := 21) hx hb hts hin3 hown hK hP (bv_c43 G _ _ _) rfl 18 (by decide) wl5 rfl rfl dX3_order_94 ?_
                refine lv_aload_n hx hb dX3_order_97 rfl (lv_at hl 0 rfl) ?_
                refine bv_get_f (ci := 3) (C := RX3) (T := TX3) (N := 21) hx hb hts hin3 hown hK hP (bv_c43 G _ _ _) rfl 15 (by decide) wl2 rfl rfl dX3_order_98 ?_
                refine lv_iload_n hx hb dX3_order_101 rfl (lv_at hl 3 rfl) ?_
                refine bv_iast hx hb hK hP hS 59 (bv_c59 G _ _ _ ) cn (ec) (by omega) (by decide) (bv_s59 G _ _ _ _ _) dX3_order_102 (fun H locs hP hS => ?_)
                refine lv_aload_n hx hb dX3_order_103 rfl (lv_at hl 0 rfl) ?_
                refine bv_get_f (ci := 3) (C := RX3) (T := TX3) (N := 21) hx hb hts hin3 hown hK hP (bv_c43 G _ _ _) rfl 19 (by decide) wl6 rfl rfl dX3_order_104 ?_
                refine lv_aload_n hx hb dX3_order_107 rfl (lv_at hl 0 rfl) ?_
                refine bv_get_f (ci := 3) (C := RX3) (T := TX3) (N := 21) hx hb hts hin3 hown hK hP (bv_c43 G _ _ _) rfl 15 (by decide) wl2 rfl rfl dX3_order_108 ?_
                refine lv_iload hx hb dX3_order_111 (lv_at hl 4 rfl) ?_
                refine bv_iast hx hb hK hP hS 60 (bv_c60 G _ _ _ ) cn (ec) (by omega) (by decide) (bv_s60 G _ _ _ _ _) dX3_order_113 (fun H locs hP hS => ?_)
                refine lv_aload_n hx hb dX3_order_114 rfl (lv_at hl 0 rfl) ?_
                refine bv_get_f (ci := 3) (C := RX3) (T := TX3) (N := 21) hx hb hts hin3 hown hK hP (bv_c43 G _ _ _) rfl 20 (by decide) wl7 rfl rfl dX3_order_115 ?_
                refine lv_aload_n hx hb dX3_order_118 rfl (lv_at hl 0 rfl) ?_
                refine bv_get_f (ci := 3) (C := RX3) (T := TX3) (N := 21) hx hb hts hin3 hown hK hP (bv_c43 G _ _ _) rfl 15 (by decide) wl2 rfl rfl dX3_order_119 ?_
                refine lv_iconst (v := 1) hx hb dX3_order_122 (by decide) ?_
                refine bv_zast hx hb hK hP hS 61 (bv_c61 G _ _ _ ) cn (ec) (by omega) (by decide) (rfl) (bv_s61 G _ _ _ _ _) dX3_order_123 (fun H locs hP hS => ?_)
                refine lv_aload_n hx hb dX3_order_124 rfl (lv_at hl 0 rfl) ?_
                refine lv_dup hx hb dX3_order_125 rfl ?_
                refine bv_get_f (ci := 3) (C := RX3) (T := TX3) (N := 21) hx hb hts hin3 hown hK hP (bv_c43 G _ _ _) rfl 15 (by decide) wl2 rfl rfl dX3_order_126 ?_
                refine lv_iconst (v := 1) hx hb dX3_order_129 (by decide) ?_
                refine lv_iadd hx hb dX3_order_130 ?_
                refine bv_put_f (ci := 3) (C := RX3) (T := TX3) (N := 21) (ty := .int) hx hb hts hin3 tyX3 tyX3_ok nmX3 hown hK hP hS (bv_c43 G _ _ _) rfl 15 (by decide) wl2 rfl rfl rfl rfl rfl (Nat.le_of_ble_eq_true rfl) rfl (bv_sord G _ _ _ _) dX3_order_131 (fun H locs hP hS => ?_)
                refine lv_aload_n hx hb dX3_order_134 rfl (lv_at hl 0 rfl) ?_
                refine bv_get_f (ci := 3) (C := RX3) (T := TX3) (N := 21) hx hb hts hin3 hown hK hP (bv_c43 G _ _ _) rfl 15 (by decide) wl2 rfl rfl dX3_order_135 ?_
                refine lv_iconst (v := 1) hx hb dX3_order_138 (by decide) ?_
                refine lv_isub hx hb dX3_order_139 ?_
                have hW : bv_H G S ((sp_order M (nI j) p1 1 p3).2.2) ((sp_order M (nI j) p1 1 p3).1, z.2) H := by
                  rw [show (sp_order M (nI j) p1 1 p3).2.2 = bv_up (bv_up (bv_up (bv_up (bv_up (bv_up M 4 cn (nI j)) 5 cn p1) 6 cn 1) 7 cn p3) 8 cn 1) 0 1 ((M 0 1) + 1) from by simp [sp_order, r_1, bv_cl hj (by decide : 8 < 2 ^ 31), r_2, r_3, r_7, c_8, c_9, bv_nb, bv_up_at, bv_fr12, bv_fr13, ecn]]
                  rw [show (sp_order M (nI j) p1 1 p3).1 = 0 from by simp [sp_order, r_1, bv_cl hj (by decide : 8 < 2 ^ 31), r_2, r_3, r_7, c_8, c_9, bv_nb, bv_up_at, bv_fr12, bv_fr13, ecn]]
                  exact hP
                exact bv_iret hx hb hr hlocks hS (Nat.le_of_ble_eq_true rfl) (Nat.le_of_ble_eq_true rfl) dX3_order_140 (by simp [sp_order, r_1, bv_cl hj (by decide : 8 < 2 ^ 31), r_2, r_3, r_7, c_8, c_9, bv_nb, bv_up_at, bv_fr12, bv_fr13, ecn]) hW
              · have c_9 : (M 0 1) = 30 := c_9
                refine lv_aload_n hx hb dX3_order_67 rfl (lv_at hl 0 rfl) ?_
                refine lv_iconst (v := 2) hx hb dX3_order_68 (by decide) ?_
                refine bv_ci (va_runV (As := [.int 2]) (rest := []) ⟨hx, hb, hml, hown, hts⟩ (c_X3_fails l G S M (0, z.2) 2 ) (cwV 1 hts gX3_order_X3_fails rfl rfl rfl (by decide +kernel) ⟨Nat.le_of_ble_eq_true rfl, Nat.le_of_ble_eq_true rfl⟩) (bv_preV hz hP hK hE hS (ci := 3) (bv_c43 G _ _ _) rfl rfl) rfl rfl hl.1 rfl (lv_room (Nat.le_of_ble_eq_true rfl)) dX3_order_69 ⟨Nat.le_of_ble_eq_true rfl, Nat.le_of_ble_eq_true rfl⟩) hS (fun H locs hP hS => ?_)
                have hW : bv_H G S ((sp_order M (nI j) p1 1 p3).2.2) ((sp_order M (nI j) p1 1 p3).1, z.2) H := by
                  rw [show (sp_order M (nI j) p1 1 p3).2.2 = M from by simp [sp_order, r_1, bv_cl hj (by decide : 8 < 2 ^ 31), r_2, r_3, r_7, c_8, c_9, bv_nb, bv_up_at, bv_fr12, bv_fr13, ecn]]
                  rw [show (sp_order M (nI j) p1 1 p3).1 = 2 from by simp [sp_order, r_1, bv_cl hj (by decide : 8 < 2 ^ 31), r_2, r_3, r_7, c_8, c_9, bv_nb, bv_up_at, bv_fr12, bv_fr13, ecn]]
                  exact hP
                exact bv_iret hx hb hr hlocks hS (Nat.le_of_ble_eq_true rfl) (Nat.le_of_ble_eq_true rfl) dX3_order_72 (by simp [sp_order, r_1, bv_cl hj (by decide : 8 < 2 ^ 31), r_2, r_3, r_7, c_8, c_9, bv_nb, bv_up_at, bv_fr12, bv_fr13, ecn]) hW
          · have r_7 := bv_rb_f c_7
            refine lv_aload_n hx hb dX3_order_43 rfl (lv_at hl 0 rfl) ?_
            refine lv_iconst (v := 1) hx hb dX3_order_44 (by decide) ?_
            refine bv_ci (va_runV (As := [.int 1]) (rest := []) ⟨hx, hb, hml, hown, hts⟩ (c_X3_fails l G S M (0, z.2) 1 ) (cwV 1 hts gX3_order_X3_fails rfl rfl rfl (by decide +kernel) ⟨Nat.le_of_ble_eq_true rfl, Nat.le_of_ble_eq_true rfl⟩) (bv_preV hz hP hK hE hS (ci := 3) (bv_c43 G _ _ _) rfl rfl) rfl rfl hl.1 rfl (lv_room (Nat.le_of_ble_eq_true rfl)) dX3_order_45 ⟨Nat.le_of_ble_eq_true rfl, Nat.le_of_ble_eq_true rfl⟩) hS (fun H locs hP hS => ?_)
            have hW : bv_H G S ((sp_order M (nI j) p1 1 p3).2.2) ((sp_order M (nI j) p1 1 p3).1, z.2) H := by
              rw [show (sp_order M (nI j) p1 1 p3).2.2 = M from by simp [sp_order, r_1, bv_cl hj (by decide : 8 < 2 ^ 31), r_2, r_3, r_7, bv_nb, bv_up_at, bv_fr12, bv_fr13, ecn]]
              rw [show (sp_order M (nI j) p1 1 p3).1 = 1 from by simp [sp_order, r_1, bv_cl hj (by decide : 8 < 2 ^ 31), r_2, r_3, r_7, bv_nb, bv_up_at, bv_fr12, bv_fr13, ecn]]
              exact hP
            exact bv_iret hx hb hr hlocks hS (Nat.le_of_ble_eq_true rfl) (Nat.le_of_ble_eq_true rfl) dX3_order_48 (by simp [sp_order, r_1, bv_cl hj (by decide : 8 < 2 ^ 31), r_2, r_3, r_7, bv_nb, bv_up_at, bv_fr12, bv_fr13, ecn]) hW
set_option maxHeartbeats 4000000 in
set_option maxRecDepth 100000 in
theorem c_X3_lift (l : Launch) (G : bv_G) (S M : bv_X) (z : bv_Z) (n : Nat) (p0 : Int32) (hn : n ≤ 1000) (hI : bv_I n M) : bv_M l yX3_lift wsX3_lift ({ frames := 1, cells := 0, slots := 0, locals := 24 }) [.ref (bv_a G 43), .int p0] G S M z ((sp_lift M p0).2.1) S ((sp_lift M p0).2.2) ((sp_lift M p0).1, z.2) := by
  refine Met.ofW (cc := cX3_lift) (maxL := 3) (ret := (some .boolean)) (by decide) rfl ?_
  intro p e s m args below meth c s₁ B hml hv
  obtain ⟨rfl, hz, hP, hK, hE⟩ := hv
  have hx := B.exec
  have hb := B.bytes
  have hr := B.returns
  have hts := atoms_spec (ws := wsX3_lift) B.pre
  have hown : s.vm.findClass RX3 = some m.cls := findClass_of_methodNamed B.named
  have hlocks := B.notSynchronized
  have hS : va_S (bv_A G) s.heap s.heap [] := va_S.rf
  have wl0 := hts (.fieldLink RX3 84 "BoxVaultModel" "orders" "I") (by decide +kernel)
  have wl1 := hts (.fieldLink RX3 62 "BoxVaultModel" "holds" "[Z") (by decide +kernel)
  have wl2 := hts (.fieldLink RX3 65 "BoxVaultModel" "thrown" "I") (by decide +kernel)
  have wl3 := hts (.fieldLink RX3 50 "BoxVaultModel" "at" "[I") (by decide +kernel)
  have hin3 : ∀ w ∈ wsX30, w ∈ wsX3_lift := (fun w h => List.mem_cons_of_mem _ (List.mem_append_right _ h))
  have hl := lv_entry ([.ref (bv_a G 43), .int p0]) (n := 3) (Nat.le_of_ble_eq_true rfl)
  rw [lg_entry_eq]
  generalize (lg_sl ([.ref (bv_a G 43), .int p0]) ++ List.replicate (3 - (lg_sl ([.ref (bv_a G 43), .int p0])).length) Slot.unset).toArray = ls at hl ⊢
  have hl : lv_has ls 3 [(0, .ref (bv_a G 43)), (1, .int p0)] := hl
  obtain ⟨cn, hc, ec⟩ := bv_I_cnt hI
  refine lv_aload_n hx hb dX3_lift_0 rfl (lv_at hl 0 rfl) ?_
  refine lv_iload_n hx hb dX3_lift_1 rfl (lv_at hl 1 rfl) ?_
  refine lv_iconst (v := 0) hx hb dX3_lift_2 (by decide) ?_
  refine lv_aload_n hx hb dX3_lift_3 rfl (lv_at hl 0 rfl) ?_
  refine bv_get_f (ci := 3) (C := RX3) (T := TX3) (N := 21) hx hb hts hin3 hown hK hP (bv_c43 G _ _ _) rfl 15 (by decide) wl0 rfl rfl dX3_lift_4 ?_
  refine lv_iconst (v := 1) hx hb dX3_lift_7 (by decide) ?_
  refine lv_isub hx hb dX3_lift_8 ?_
  refine bv_ci (va_runS (As := [.int p0, .int 0, .int ((M 0 1) - 1)]) (rest := [.ref (bv_a G 43)]) ⟨hx, hb, hml, hown, hts⟩ (c_X3_in l G S M z p0 0 ((M 0 1) - 1) ) (va_cwS 3 hts gX3_lift_X3_in rfl rfl rfl (by decide +kernel) ⟨Nat.le_of_ble_eq_true rfl, Nat.le_of_ble_eq_true rfl⟩) (bv_preS hz hP hK hE hS) rfl rfl hl.1 rfl (lv_room (Nat.le_of_ble_eq_true rfl)) dX3_lift_9 ⟨Nat.le_of_ble_eq_true rfl, Nat.le_of_ble_eq_true rfl⟩) hS (fun H locs hP hS => ?_)
  refine bv_ifneB (tgt := 19) hx hb dX3_lift_12 (by decide) (fun c_1 => ?_) (fun c_1 => ?_)
  · have r_1 := bv_rb_t c_1
    have r_h := (bv_hb_m hI p0).symm.trans r_1
    obtain ⟨i, hi, ei⟩ := bv_hb_i hI r_h
    subst ei
    refine lv_aload_n hx hb dX3_lift_19 rfl (lv_at hl 0 rfl) ?_
    refine bv_get_f (ci := 3) (C := RX3) (T := TX3) (N := 21) hx hb hts hin3 hown hK hP (bv_c43 G _ _ _) rfl 20 (by decide) wl1 rfl rfl dX3_lift_20 ?_
    refine lv_iload_n hx hb dX3_lift_23 rfl (lv_at hl 1 rfl) ?_
    refine bv_zald hx hb hK hP 61 (bv_c61 G _ _ _) i (rfl) (by omega) (by decide) dX3_lift_24 ?_
    refine lv_if_eq (tgt := 32) hx hb dX3_lift_25 (by decide) (fun c_2 => ?_) (fun c_2 => ?_)
    · have c_2 : (M 8 i) = 0 := c_2
      refine lv_iconst (v := 2) hx hb dX3_lift_32 (by decide) ?_
      refine bv_put_f (ci := 3) (C := RX3) (T := TX3) (N := 21) (ty := .int) hx hb hts hin3 tyX3 tyX3_ok nmX3 hown hK hP hS (bv_c43 G _ _ _) rfl 0 (by decide) wl2 rfl rfl rfl rfl rfl (Nat.le_of_ble_eq_true rfl) rfl (bv_sth G _ _ _ _) dX3_lift_33 (fun H locs hP hS => ?_)
      refine lv_aload_n hx hb dX3_lift_36 rfl (lv_at hl 0 rfl) ?_
      refine bv_get_f (ci := 3) (C := RX3) (T := TX3) (N := 21) hx hb hts hin3 hown hK hP (bv_c43 G _ _ _) rfl 0 (by decide) wl2 rfl rfl dX3_lift_37 ?_
      refine lv_if_le (tgt := 45) hx hb dX3_lift_40 (by decide) (fun c_3 => ?_) (fun c_3 => ?_)
      · exact absurd c_3 (show ¬ ((2 : Int32) ≤ 0) from by decide)
      · have c_3 : ¬ (2 : Int32) ≤ 0 := c_3
        refine lv_iconst (v := 0) hx hb dX3_lift_43 (by decide) ?_
        have hW : bv_H G S ((sp_lift M (nI i)).2.2) ((sp_lift M (nI i)).1, z.2) H := by
          rw [show (sp_lift M (nI i)).2.2 = M from by simp [sp_lift, r_h, bv_cl hi (by decide : 30 < 2 ^ 31), c_2, c_3, bv_nb, bv_up_at, bv_fr12, bv_fr13]]
          rw [show (sp_lift M (nI i)).1 = 2 from by simp [sp_lift, r_h, bv_cl hi (by decide : 30 < 2 ^ 31), c_2, c_3, bv_nb, bv_up_at, bv_fr12, bv_fr13]]
          exact hP
        exact bv_zret hx hb hr hlocks (rfl) hS (Nat.le_of_ble_eq_true rfl) (Nat.le_of_ble_eq_true rfl) dX3_lift_44 (by simp [sp_lift, bI, r_h, bv_cl hi (by decide : 30 < 2 ^ 31), c_2, c_3, bv_nb, bv_up_at, bv_fr12, bv_fr13]) hW
    · have c_2 : ¬ (M 8 i) = 0 := c_2
      refine lv_iconst (v := 0) hx hb dX3_lift_28 (by decide) ?_
      refine lv_goto (tgt := 33) hx hb dX3_lift_29 (by decide) ?_
      refine bv_put_f (ci := 3) (C := RX3) (T := TX3) (N := 21) (ty := .int) hx hb hts hin3 tyX3 tyX3_ok nmX3 hown hK hP hS (bv_c43 G _ _ _) rfl 0 (by decide) wl2 rfl rfl rfl rfl rfl (Nat.le_of_ble_eq_true rfl) rfl (bv_sth G _ _ _ _) dX3_lift_33 (fun H locs hP hS => ?_)
      refine lv_aload_n hx hb dX3_lift_36 rfl (lv_at hl 0 rfl) ?_
      refine bv_get_f (ci := 3) (C := RX3) (T := TX3) (N := 21) hx hb hts hin3 hown hK hP (bv_c43 G _ _ _) rfl 0 (by decide) wl2 rfl rfl dX3_lift_37 ?_
      refine lv_if_le (tgt := 45) hx hb dX3_lift_40 (by decide) (fun c_4 => ?_) (fun c_4 => ?_)
      · have c_4 : (0 : Int32) ≤ 0 := c_4
        refine lv_aload_n hx hb dX3_lift_45 rfl (lv_at hl 0 rfl) ?_
        refine lv_aload_n hx hb dX3_lift_46 rfl (lv_at hl 0 rfl) ?_
        refine bv_get_f (ci := 3) (C := RX3) (T := TX3) (N := 21) hx hb hts hin3 hown hK hP (bv_c43 G _ _ _) rfl 16 (by decide) wl3 rfl rfl dX3_lift_47 ?_
        refine lv_iload_n hx hb dX3_lift_50 rfl (lv_at hl 1 rfl) ?_
        refine bv_iald hx hb hK hP 57 (bv_c57 G _ _ _) i (rfl) (by omega) (by decide) dX3_lift_51 ?_
        refine bv_ci (va_runV (As := [.int (M 4 i)]) (rest := []) ⟨hx, hb, hml, hown, hts⟩ (c_X3_binds l G S M (0, z.2) (M 4 i) cn (hc) (ec)) (cwV 1 hts gX3_lift_X3_binds rfl rfl rfl (by decide +kernel) ⟨Nat.le_of_ble_eq_true rfl, Nat.le_of_ble_eq_true rfl⟩) (bv_preV hz hP hK hE hS (ci := 3) (bv_c43 G _ _ _) rfl rfl) rfl rfl hl.1 rfl (lv_room (Nat.le_of_ble_eq_true rfl)) dX3_lift_52 ⟨Nat.le_of_ble_eq_true rfl, Nat.le_of_ble_eq_true rfl⟩) hS (fun H locs hP hS => ?_)
        refine bv_eqi (y := bv_bd M (M 4 i)) (bv_bd_c ec hc) ?_
        refine lv_iload_n hx hb dX3_lift_55 rfl (lv_at hl 1 rfl) ?_
        refine lv_icmp_ne (tgt := 63) hx hb dX3_lift_56 (by decide) (fun c_5 => ?_) (fun c_5 => ?_)
        · have c_5 : ¬ (bv_bd M (M 4 i)) = (nI i) := c_5
          refine lv_iconst (v := 0) hx hb dX3_lift_63 (by decide) ?_
          refine lv_istore_n (lv' := [(2, .int 0), (0, .ref (bv_a G 43)), (1, .int (nI i))]) hx hb dX3_lift_64 rfl hl (by decide) rfl (fun ls hl => ?_)
          refine lv_aload_n hx hb dX3_lift_65 rfl (lv_at hl 1 rfl) ?_
          refine bv_get_f (ci := 3) (C := RX3) (T := TX3) (N := 21) hx hb hts hin3 hown hK hP (bv_c43 G _ _ _) rfl 20 (by decide) wl1 rfl rfl dX3_lift_66 ?_
          refine lv_iload_n hx hb dX3_lift_69 rfl (lv_at hl 2 rfl) ?_
          refine lv_iconst (v := 0) hx hb dX3_lift_70 (by decide) ?_
          refine bv_zast hx hb hK hP hS 61 (bv_c61 G _ _ _ ) i (rfl) (by omega) (by decide) (rfl) (bv_s61 G _ _ _ _ _) dX3_lift_71 (fun H locs hP hS => ?_)
          refine lv_iload_n hx hb dX3_lift_72 rfl (lv_at hl 0 rfl) ?_
          have hW : bv_H G S ((sp_lift M (nI i)).2.2) ((sp_lift M (nI i)).1, z.2) H := by
            rw [show (sp_lift M (nI i)).2.2 = bv_up M 8 i 0 from by simp [sp_lift, r_h, bv_cl hi (by decide : 30 < 2 ^ 31), c_2, c_4, c_5, bv_nb, bv_up_at, bv_fr12, bv_fr13]]
            rw [show (sp_lift M (nI i)).1 = 0 from by simp [sp_lift, r_h, bv_cl hi (by decide : 30 < 2 ^ 31), c_2, c_4, c_5, bv_nb, bv_up_at, bv_fr12, bv_fr13]]
            exact hP
          exact bv_zret hx hb hr hlocks (rfl) hS (Nat.le_of_ble_eq_true rfl) (Nat.le_of_ble_eq_true rfl) dX3_lift_73 (by simp [sp_lift, bI, r_h, bv_cl hi (by decide : 30 < 2 ^ 31), c_2, c_4, c_5, bv_nb, bv_up_at, bv_fr12, bv_fr13]) hW
        · have c_5 : (bv_bd M (M 4 i)) = (nI i) := c_5
          refine lv_iconst (v := 1) hx hb dX3_lift_59 (by decide) ?_
          refine lv_goto (tgt := 64) hx hb dX3_lift_60 (by decide) ?_
          refine lv_istore_n (lv' := [(2, .int 1), (0, .ref (bv_a G 43)), (1, .int (nI i))]) hx hb dX3_lift_64 rfl hl (by decide) rfl (fun ls hl => ?_)
          refine lv_aload_n hx hb dX3_lift_65 rfl (lv_at hl 1 rfl) ?_
          refine bv_get_f (ci := 3) (C := RX3) (T := TX3) (N := 21) hx hb hts hin3 hown hK hP (bv_c43 G _ _ _) rfl 20 (by decide) wl1 rfl rfl dX3_lift_66 ?_
          refine lv_iload_n hx hb dX3_lift_69 rfl (lv_at hl 2 rfl) ?_
          refine lv_iconst (v := 0) hx hb dX3_lift_70 (by decide) ?_
          refine bv_zast hx hb hK hP hS 61 (bv_c61 G _ _ _ ) i (rfl) (by omega) (by decide) (rfl) (bv_s61 G _ _ _ _ _) dX3_lift_71 (fun H locs hP hS => ?_)
          refine lv_iload_n hx hb dX3_lift_72 rfl (lv_at hl 0 rfl) ?_
          have hW : bv_H G S ((sp_lift M (nI i)).2.2) ((sp_lift M (nI i)).1, z.2) H := by
            rw [show (sp_lift M (nI i)).2.2 = bv_up M 8 i 0 from by simp [sp_lift, r_h, bv_cl hi (by decide : 30 < 2 ^ 31), c_2, c_4, c_5, bv_nb, bv_up_at, bv_fr12, bv_fr13]]
            rw [show (sp_lift M (nI i)).1 = 0 from by simp [sp_lift, r_h, bv_cl hi (by decide : 30 < 2 ^ 31), c_2, c_4, c_5, bv_nb, bv_up_at, bv_fr12, bv_fr13]]
            exact hP
          exact bv_zret hx hb hr hlocks (rfl) hS (Nat.le_of_ble_eq_true rfl) (Nat.le_of_ble_eq_true rfl) dX3_lift_73 (by simp [sp_lift, bI, r_h, bv_cl hi (by decide : 30 < 2 ^ 31), c_2, c_4, c_5, bv_nb, bv_up_at, bv_fr12, bv_fr13]) hW
      · exact absurd c_4 (show ¬ (¬ (0 : Int32) ≤ 0) from by decide)
  · have r_1 := bv_rb_f c_1
    have r_h := (bv_hb_m hI p0).symm.trans r_1
    refine lv_iconst (v := 1) hx hb dX3_lift_15 (by decide) ?_
    refine lv_goto (tgt := 33) hx hb dX3_lift_16 (by decide) ?_
    refine bv_put_f (ci := 3) (C := RX3) (T := TX3) (N := 21) (ty := .int) hx hb hts hin3 tyX3 tyX3_ok nmX3 hown hK hP hS (bv_c43 G _ _ _) rfl 0 (by decide) wl2 rfl rfl rfl rfl rfl (Nat.le_of_ble_eq_true rfl) rfl (bv_sth G _ _ _ _) dX3_lift_33 (fun H locs hP hS => ?_)
    refine lv_aload_n hx hb dX3_lift_36 rfl (lv_at hl 0 rfl) ?_
    refine bv_get_f (ci := 3) (C := RX3) (T := TX3) (N := 21) hx hb hts hin3 hown hK hP (bv_c43 G _ _ _) rfl 0 (by decide) wl2 rfl rfl dX3_lift_37 ?_
    refine lv_if_le (tgt := 45) hx hb dX3_lift_40 (by decide) (fun c_6 => ?_) (fun c_6 => ?_)
    · exact absurd c_6 (show ¬ ((1 : Int32) ≤ 0) from by decide)
    · have c_6 : ¬ (1 : Int32) ≤ 0 := c_6
      refine lv_iconst (v := 0) hx hb dX3_lift_43 (by decide) ?_
      have hW : bv_H G S ((sp_lift M p0).2.2) ((sp_lift M p0).1, z.2) H := by
        rw [show (sp_lift M p0).2.2 = M from by simp [sp_lift, r_h, c_6, bv_nb, bv_up_at, bv_fr12, bv_fr13]]
        rw [show (sp_lift M p0).1 = 1 from by simp [sp_lift, r_h, c_6, bv_nb, bv_up_at, bv_fr12, bv_fr13]]
        exact hP
      exact bv_zret hx hb hr hlocks (rfl) hS (Nat.le_of_ble_eq_true rfl) (Nat.le_of_ble_eq_true rfl) dX3_lift_44 (by simp [sp_lift, bI, r_h, c_6, bv_nb, bv_up_at, bv_fr12, bv_fr13]) hW
set_option maxHeartbeats 4000000 in
set_option maxRecDepth 100000 in
theorem c_X3_enter (l : Launch) (G : bv_G) (S M : bv_X) (z : bv_Z) (n : Nat) (p0 : Int32) (p1 : Int32) (p2 : Int32) (hn : n ≤ 1000) (hI : bv_I n M) : bv_M l yX3_enter wsX3_enter ({ frames := 3, cells := 0, slots := 0, locals := 69 }) [.ref (bv_a G 43), .int p0, .int p1, .int p2] G S M z ((sp_enter M p0 p1 p2).2.1) S ((sp_enter M p0 p1 p2).2.2) ((sp_enter M p0 p1 p2).1, z.2) := by
  refine Met.ofW (cc := cX3_enter) (maxL := 6) (ret := (some .int)) (by decide) rfl ?_
  intro p e s m args below meth c s₁ B hml hv
  obtain ⟨rfl, hz, hP, hK, hE⟩ := hv
  have hx := B.exec
  have hb := B.bytes
  have hr := B.returns
  have hts := atoms_spec (ws := wsX3_enter) B.pre
  have hown : s.vm.findClass RX3 = some m.cls := findClass_of_methodNamed B.named
  have hlocks := B.notSynchronized
  have hS : va_S (bv_A G) s.heap s.heap [] := va_S.rf
  have wl0 := hts (.fieldLink RX3 65 "BoxVaultModel" "thrown" "I") (by decide +kernel)
  have wl1 := hts (.fieldLink RX3 17 "BoxVaultModel" "refusals" "[I") (by decide +kernel)
  have wl2 := hts (.fieldLink RX3 29 "BoxVaultModel" "entries" "[I") (by decide +kernel)
  have wl3 := hts (.fieldLink RX3 32 "BoxVaultModel" "looked" "[Z") (by decide +kernel)
  have hin3 : ∀ w ∈ wsX30, w ∈ wsX3_enter := (fun w h => List.mem_cons_of_mem _ (List.mem_append_right _ h))
  have hl := lv_entry ([.ref (bv_a G 43), .int p0, .int p1, .int p2]) (n := 6) (Nat.le_of_ble_eq_true rfl)
  rw [lg_entry_eq]
  generalize (lg_sl ([.ref (bv_a G 43), .int p0, .int p1, .int p2]) ++ List.replicate (6 - (lg_sl ([.ref (bv_a G 43), .int p0, .int p1, .int p2])).length) Slot.unset).toArray = ls at hl ⊢
  have hl : lv_has ls 6 [(0, .ref (bv_a G 43)), (1, .int p0), (2, .int p1), (3, .int p2)] := hl
  refine lv_aload_n hx hb dX3_enter_0 rfl (lv_at hl 0 rfl) ?_
  refine lv_iconst (v := 0) hx hb dX3_enter_1 (by decide) ?_
  refine bv_put_f (ci := 3) (C := RX3) (T := TX3) (N := 21) (ty := .int) hx hb hts hin3 tyX3 tyX3_ok nmX3 hown hK hP hS (bv_c43 G _ _ _) rfl 0 (by decide) wl0 rfl rfl rfl rfl rfl (Nat.le_of_ble_eq_true rfl) rfl (bv_sth G _ _ _ _) dX3_enter_2 (fun H locs hP hS => ?_)
  refine lv_iload_n hx hb dX3_enter_5 rfl (lv_at hl 1 rfl) ?_
  refine bv_ci (va_runS (As := [.int p0]) (rest := []) ⟨hx, hb, hml, hown, hts⟩ (c_X3_isBox l G S M (0, z.2) p0 ) (va_cwS 1 hts gX3_enter_X3_isBox rfl rfl rfl (by decide +kernel) ⟨Nat.le_of_ble_eq_true rfl, Nat.le_of_ble_eq_true rfl⟩) (bv_preS hz hP hK hE hS) rfl rfl hl.1 rfl (lv_room (Nat.le_of_ble_eq_true rfl)) dX3_enter_6 ⟨Nat.le_of_ble_eq_true rfl, Nat.le_of_ble_eq_true rfl⟩) hS (fun H locs hP hS => ?_)
  refine bv_ifeqB (tgt := 29) hx hb dX3_enter_9 (by decide) (fun c_1 => ?_) (fun c_1 => ?_)
  · have r_1 := bv_rb_f c_1
    refine lv_aload_n hx hb dX3_enter_29 rfl (lv_at hl 0 rfl) ?_
    refine lv_iconst (v := 1) hx hb dX3_enter_30 (by decide) ?_
    refine bv_ci (va_runV (As := [.int 1]) (rest := []) ⟨hx, hb, hml, hown, hts⟩ (c_X3_fails l G S M (0, z.2) 1 ) (cwV 1 hts gX3_enter_X3_fails rfl rfl rfl (by decide +kernel) ⟨Nat.le_of_ble_eq_true rfl, Nat.le_of_ble_eq_true rfl⟩) (bv_preV hz hP hK hE hS (ci := 3) (bv_c43 G _ _ _) rfl rfl) rfl rfl hl.1 rfl (lv_room (Nat.le_of_ble_eq_true rfl)) dX3_enter_31 ⟨Nat.le_of_ble_eq_true rfl, Nat.le_of_ble_eq_true rfl⟩) hS (fun H locs hP hS => ?_)
    have hW : bv_H G S ((sp_enter M p0 p1 p2).2.2) ((sp_enter M p0 p1 p2).1, z.2) H := by
      rw [show (sp_enter M p0 p1 p2).2.2 = M from by simp [sp_enter, r_1, bv_nb, bv_up_at, bv_fr12, bv_fr13, bv_co, bv_en]]
      rw [show (sp_enter M p0 p1 p2).1 = 1 from by simp [sp_enter, r_1, bv_nb, bv_up_at, bv_fr12, bv_fr13, bv_co, bv_en]]
      exact hP
    exact bv_iret hx hb hr hlocks hS (Nat.le_of_ble_eq_true rfl) (Nat.le_of_ble_eq_true rfl) dX3_enter_34 (by simp [sp_enter, r_1, bv_nb, bv_up_at, bv_fr12, bv_fr13, bv_co, bv_en]) hW
  · have r_1 := bv_rb_t c_1
    obtain ⟨j, hj, ej⟩ := bv_of8 c_1
    subst ej
    refine lv_iload_n hx hb dX3_enter_12 rfl (lv_at hl 2 rfl) ?_
    refine bv_ci (va_runS (As := [.int p1]) (rest := []) ⟨hx, hb, hml, hown, hts⟩ (c_X3_isPerson l G S M (0, z.2) p1 ) (va_cwS 1 hts gX3_enter_X3_isPerson rfl rfl rfl (by decide +kernel) ⟨Nat.le_of_ble_eq_true rfl, Nat.le_of_ble_eq_true rfl⟩) (bv_preS hz hP hK hE hS) rfl rfl hl.1 rfl (lv_room (Nat.le_of_ble_eq_true rfl)) dX3_enter_13 ⟨Nat.le_of_ble_eq_true rfl, Nat.le_of_ble_eq_true rfl⟩) hS (fun H locs hP hS => ?_)
    refine bv_ifeqB (tgt := 29) hx hb dX3_enter_16 (by decide) (fun c_2 => ?_) (fun c_2 => ?_)
    · have r_2 := bv_rb_f c_2
      refine lv_aload_n hx hb dX3_enter_29 rfl (lv_at hl 0 rfl) ?_
      refine lv_iconst (v := 1) hx hb dX3_enter_30 (by decide) ?_
      refine bv_ci (va_runV (As := [.int 1]) (rest := []) ⟨hx, hb, hml, hown, hts⟩ (c_X3_fails l G S M (0, z.2) 1 ) (cwV 1 hts gX3_enter_X3_fails rfl rfl rfl (by decide +kernel) ⟨Nat.le_of_ble_eq_true rfl, Nat.le_of_ble_eq_true rfl⟩) (bv_preV hz hP hK hE hS (ci := 3) (bv_c43 G _ _ _) rfl rfl) rfl rfl hl.1 rfl (lv_room (Nat.le_of_ble_eq_true rfl)) dX3_enter_31 ⟨Nat.le_of_ble_eq_true rfl, Nat.le_of_ble_eq_true rfl⟩) hS (fun H locs hP hS => ?_)
      have hW : bv_H G S ((sp_enter M (nI j) p1 p2).2.2) ((sp_enter M (nI j) p1 p2).1, z.2) H := by
        rw [show (sp_enter M (nI j) p1 p2).2.2 = M from by simp [sp_enter, r_1, bv_cl hj (by decide : 8 < 2 ^ 31), r_2, bv_nb, bv_up_at, bv_fr12, bv_fr13, bv_co, bv_en]]
        rw [show (sp_enter M (nI j) p1 p2).1 = 1 from by simp [sp_enter, r_1, bv_cl hj (by decide : 8 < 2 ^ 31), r_2, bv_nb, bv_up_at, bv_fr12, bv_fr13, bv_co, bv_en]]
        exact hP
      exact bv_iret hx hb hr hlocks hS (Nat.le_of_ble_eq_true rfl) (Nat.le_of_ble_eq_true rfl) dX3_enter_34 (by simp [sp_enter, r_1, bv_cl hj (by decide : 8 < 2 ^ 31), r_2, bv_nb, bv_up_at, bv_fr12, bv_fr13, bv_co, bv_en]) hW
    · have r_2 := bv_rb_t c_2
      obtain ⟨q, hq, ej⟩ := bv_of16 c_2
      subst ej
      refine lv_iload_n hx hb dX3_enter_19 rfl (lv_at hl 3 rfl) ?_
      refine lv_iconst (v := 0) hx hb dX3_enter_20 (by decide) ?_
      refine lv_bipush (v := 100) hx hb dX3_enter_21 (by decide) ?_
      refine bv_ci (va_runS (As := [.int p2, .int 0, .int 100]) (rest := []) ⟨hx, hb, hml, hown, hts⟩ (c_X3_in l G S M (0, z.2) p2 0 100 ) (va_cwS 3 hts gX3_enter_X3_in rfl rfl rfl (by decide +kernel) ⟨Nat.le_of_ble_eq_true rfl, Nat.le_of_ble_eq_true rfl⟩) (bv_preS hz hP hK hE hS) rfl rfl hl.1 rfl (lv_room (Nat.le_of_ble_eq_true rfl)) dX3_enter_23 ⟨Nat.le_of_ble_eq_true rfl, Nat.le_of_ble_eq_true rfl⟩) hS (fun H locs hP hS => ?_)
      refine bv_ifneB (tgt := 35) hx hb dX3_enter_26 (by decide) (fun c_3 => ?_) (fun c_3 => ?_)
      · have r_3 := bv_rb_t c_3
        refine lv_aload_n hx hb dX3_enter_35 rfl (lv_at hl 0 rfl) ?_
        refine lv_iload_n hx hb dX3_enter_36 rfl (lv_at hl 1 rfl) ?_
        refine bv_ci (va_runV (As := [.int (nI j)]) (rest := []) ⟨hx, hb, hml, hown, hts⟩ (c_X3_isRented l G S M (0, z.2) j (by omega)) (cwV 1 hts gX3_enter_X3_isRented rfl rfl rfl (by decide +kernel) ⟨Nat.le_of_ble_eq_true rfl, Nat.le_of_ble_eq_true rfl⟩) (bv_preV hz hP hK hE hS (ci := 3) (bv_c43 G _ _ _) rfl rfl) rfl rfl hl.1 rfl (lv_room (Nat.le_of_ble_eq_true rfl)) dX3_enter_37 ⟨Nat.le_of_ble_eq_true rfl, Nat.le_of_ble_eq_true rfl⟩) hS (fun H locs hP hS => ?_)
        refine bv_ifneB (tgt := 49) hx hb dX3_enter_40 (by decide) (fun c_4 => ?_) (fun c_4 => ?_)
        · have c_4t := eq_true c_4
          refine lv_aload_n hx hb dX3_enter_49 rfl (lv_at hl 0 rfl) ?_
          refine lv_iload_n hx hb dX3_enter_50 rfl (lv_at hl 1 rfl) ?_
          refine lv_iload_n hx hb dX3_enter_51 rfl (lv_at hl 2 rfl) ?_
          refine bv_ci (va_runV (As := [.int (nI j), .int (nI q)]) (rest := []) ⟨hx, hb, hml, hown, hts⟩ (c_X3_right l G S M (0, z.2) n j q (hn) (hI) (by omega) (by omega)) (cwV 2 hts gX3_enter_X3_right rfl rfl rfl (by decide +kernel) ⟨Nat.le_of_ble_eq_true rfl, Nat.le_of_ble_eq_true rfl⟩) (bv_preV hz hP hK hE hS (ci := 3) (bv_c43 G _ _ _) rfl rfl) rfl rfl hl.1 rfl (lv_room (Nat.le_of_ble_eq_true rfl)) dX3_enter_52 ⟨Nat.le_of_ble_eq_true rfl, Nat.le_of_ble_eq_true rfl⟩) hS (fun H locs hP hS => ?_)
          refine lv_istore (lv' := [(4, .int (bv_rt M j q)), (0, .ref (bv_a G 43)), (1, .int (nI j)), (2, .int (nI q)), (3, .int p2)]) hx hb dX3_enter_55 hl (by decide) rfl (fun ls hl => ?_)
          refine lv_iload hx hb dX3_enter_57 (lv_at hl 0 rfl) ?_
          refine lv_iconst (v := 3) hx hb dX3_enter_59 (by decide) ?_
          refine lv_icmp_eq (tgt := 73) hx hb dX3_enter_60 (by decide) (fun c_5 => ?_) (fun c_5 => ?_)
          · have c_5 : (bv_rt M j q) = 3 := c_5
            refine lv_iload hx hb dX3_enter_73 (lv_at hl 0 rfl) ?_
            refine lv_istore (lv' := [(5, .int (bv_rt M j q)), (4, .int (bv_rt M j q)), (0, .ref (bv_a G 43)), (1, .int (nI j)), (2, .int (nI q)), (3, .int p2)]) hx hb dX3_enter_75 hl (by decide) rfl (fun ls hl => ?_)
            refine lv_aload_n hx hb dX3_enter_77 rfl (lv_at hl 2 rfl) ?_
            refine bv_get_f (ci := 3) (C := RX3) (T := TX3) (N := 21) hx hb hts hin3 hown hK hP (bv_c43 G _ _ _) rfl 4 (by decide) wl1 rfl rfl dX3_enter_78 ?_
            refine lv_iload_n hx hb dX3_enter_81 rfl (lv_at hl 4 rfl) ?_
            refine lv_dup2_11 hx hb dX3_enter_82 rfl rfl ?_
            refine bv_iald hx hb hK hP 46 (bv_c46 G _ _ _) q (rfl) (hq) (by decide) dX3_enter_83 ?_
            refine lv_iload hx hb dX3_enter_84 (lv_at hl 0 rfl) ?_
            refine lv_iconst (v := 2) hx hb dX3_enter_86 (by decide) ?_
            refine lv_icmp_eq (tgt := 96) hx hb dX3_enter_87 (by decide) (fun c_6 => ?_) (fun c_6 => ?_)
            · exact absurd c_6 bv_rt_n2
            · have c_6 : ¬ (bv_rt M j q) = 2 := c_6
              refine lv_iload hx hb dX3_enter_90 (lv_at hl 0 rfl) ?_
              refine lv_iconst (v := 3) hx hb dX3_enter_92 (by decide) ?_
              refine lv_icmp_ne (tgt := 100) hx hb dX3_enter_93 (by decide) (fun c_7 => ?_) (fun c_7 => ?_)
              · exact absurd c_5 c_7
              · have c_7 : (bv_rt M j q) = 3 := c_7
                refine lv_iconst (v := 1) hx hb dX3_enter_96 (by decide) ?_
                refine lv_goto (tgt := 101) hx hb dX3_enter_97 (by decide) ?_
                refine lv_iadd hx hb dX3_enter_101 ?_
                refine bv_iast hx hb hK hP hS 46 (bv_c46 G _ _ _ ) q (rfl) (hq) (by decide) (bv_s46 G _ _ _ _ _) dX3_enter_102 (fun H locs hP hS => ?_)
                refine lv_aload_n hx hb dX3_enter_103 rfl (lv_at hl 2 rfl) ?_
                refine bv_get_f (ci := 3) (C := RX3) (T := TX3) (N := 21) hx hb hts hin3 hown hK hP (bv_c43 G _ _ _) rfl 8 (by decide) wl2 rfl rfl dX3_enter_104 ?_
                refine lv_iload_n hx hb dX3_enter_107 rfl (lv_at hl 3 rfl) ?_
                refine lv_dup2_11 hx hb dX3_enter_108 rfl rfl ?_
                refine bv_iald hx hb hK hP 50 (bv_c50 G _ _ _) j (rfl) (hj) (by decide) dX3_enter_109 ?_
                refine lv_iload hx hb dX3_enter_110 (lv_at hl 0 rfl) ?_
                refine lv_if_eq (tgt := 121) hx hb dX3_enter_112 (by decide) (fun c_8 => ?_) (fun c_8 => ?_)
                · exact absurd (c_7.symm.trans c_8) (by decide)
                · have c_8 : ¬ (bv_rt M j q) = 0 := c_8
                  refine lv_iload hx hb dX3_enter_115 (lv_at hl 0 rfl) ?_
                  refine lv_iconst (v := 1) hx hb dX3_enter_117 (by decide) ?_
                  refine lv_icmp_ne (tgt := 125) hx hb dX3_enter_118 (by decide) (fun c_9 => ?_) (fun c_9 => ?_)
                  · have c_9 : ¬ (bv_rt M j q) = 1 := c_9
                    refine lv_iconst (v := 0) hx hb dX3_enter_125 (by decide) ?_
                    refine lv_iadd hx hb dX3_enter_126 ?_
                    refine bv_iast hx hb hK hP hS 50 (bv_c50 G _ _ _ ) j (rfl) (hj) (by decide) (bv_s50 G _ _ _ _ _) dX3_enter_127 (fun H locs hP hS => ?_)
                    refine lv_aload_n hx hb dX3_enter_128 rfl (lv_at hl 2 rfl) ?_
                    refine bv_get_f (ci := 3) (C := RX3) (T := TX3) (N := 21) hx hb hts hin3 hown hK hP (bv_c43 G _ _ _) rfl 9 (by decide) wl3 rfl rfl dX3_enter_129 ?_
                    refine lv_iload_n hx hb dX3_enter_132 rfl (lv_at hl 3 rfl) ?_
                    refine lv_aload_n hx hb dX3_enter_133 rfl (lv_at hl 2 rfl) ?_
                    refine bv_get_f (ci := 3) (C := RX3) (T := TX3) (N := 21) hx hb hts hin3 hown hK hP (bv_c43 G _ _ _) rfl 9 (by decide) wl3 rfl rfl dX3_enter_134 ?_
                    refine lv_iload_n hx hb dX3_enter_137 rfl (lv_at hl 3 rfl) ?_
                    refine bv_zald hx hb hK hP 51 (bv_c51 G _ _ _) j (rfl) (hj) (by decide) dX3_enter_138 ?_
                    refine lv_if_ne (tgt := 148) hx hb dX3_enter_139 (by decide) (fun c_10 => ?_) (fun c_10 => ?_)
                    · have c_10 : ¬ (M 14 j) = 0 := c_10
                      refine lv_iconst (v := 1) hx hb dX3_enter_148 (by decide) ?_
                      refine lv_goto (tgt := 153) hx hb dX3_enter_149 (by decide) ?_
                      refine bv_zast hx hb hK hP hS 51 (bv_c51 G _ _ _ ) j (rfl) (hj) (by decide) (rfl) (bv_s51 G _ _ _ _ _) dX3_enter_153 (fun H locs hP hS => ?_)
                      refine lv_iload hx hb dX3_enter_154 (lv_at hl 0 rfl) ?_
                      have hW : bv_H G S ((sp_enter M (nI j) (nI q) p2).2.2) ((sp_enter M (nI j) (nI q) p2).1, z.2) H := by
                        rw [show (sp_enter M (nI j) (nI q) p2).2.2 = bv_up (bv_up (bv_up M 3 q ((M 3 q) + 1)) 13 j ((M 13 j) + 0)) 14 j 1 from by simp [sp_enter, r_1, bv_cl hj (by decide : 8 < 2 ^ 31), r_2, bv_cl hq (by decide : 16 < 2 ^ 31), r_3, c_4t, c_5, c_6, c_7, c_8, c_9, c_10, bv_nb, bv_up_at, bv_fr12, bv_fr13, bv_co, bv_en]]
                        rw [show (sp_enter M (nI j) (nI q) p2).1 = 0 from by simp [sp_enter, r_1, bv_cl hj (by decide : 8 < 2 ^ 31), r_2, bv_cl hq (by decide : 16 < 2 ^ 31), r_3, c_4t, c_5, c_6, c_7, c_8, c_9, c_10, bv_nb, bv_up_at, bv_fr12, bv_fr13, bv_co, bv_en]]
                        exact hP
                      exact bv_iret hx hb hr hlocks hS (Nat.le_of_ble_eq_true rfl) (Nat.le_of_ble_eq_true rfl) dX3_enter_156 (by simp [sp_enter, r_1, bv_cl hj (by decide : 8 < 2 ^ 31), r_2, bv_cl hq (by decide : 16 < 2 ^ 31), r_3, c_4t, c_5, c_6, c_7, c_8, c_9, c_10, bv_nb, bv_up_at, bv_fr12, bv_fr13, bv_co, bv_en]) hW
                    · have c_10 : (M 14 j) = 0 := c_10
                      refine lv_iload hx hb dX3_enter_142 (lv_at hl 0 rfl) ?_
                      refine lv_iconst (v := 1) hx hb dX3_enter_144 (by decide) ?_
                      refine lv_icmp_ne (tgt := 152) hx hb dX3_enter_145 (by decide) (fun c_11 => ?_) (fun c_11 => ?_)
                      · have c_11 : ¬ (bv_rt M j q) = 1 := c_11
                        refine lv_iconst (v := 0) hx hb dX3_enter_152 (by decide) ?_
                        refine bv_zast hx hb hK hP hS 51 (bv_c51 G _ _ _ ) j (rfl) (hj) (by decide) (rfl) (bv_s51 G _ _ _ _ _) dX3_enter_153 (fun H locs hP hS => ?_)
                        refine lv_iload hx hb dX3_enter_154 (lv_at hl 0 rfl) ?_
                        have hW : bv_H G S ((sp_enter M (nI j) (nI q) p2).2.2) ((sp_enter M (nI j) (nI q) p2).1, z.2) H := by
                          rw [show (sp_enter M (nI j) (nI q) p2).2.2 = bv_up (bv_up (bv_up M 3 q ((M 3 q) + 1)) 13 j ((M 13 j) + 0)) 14 j 0 from by simp [sp_enter, r_1, bv_cl hj (by decide : 8 < 2 ^ 31), r_2, bv_cl hq (by decide : 16 < 2 ^ 31), r_3, c_4t, c_5, c_6, c_7, c_8, c_9, c_10, c_11, bv_nb, bv_up_at, bv_fr12, bv_fr13, bv_co, bv_en]]
                          rw [show (sp_enter M (nI j) (nI q) p2).1 = 0 from by simp [sp_enter, r_1, bv_cl hj (by decide : 8 < 2 ^ 31), r_2, bv_cl hq (by decide : 16 < 2 ^ 31), r_3, c_4t, c_5, c_6, c_7, c_8, c_9, c_10, c_11, bv_nb, bv_up_at, bv_fr12, bv_fr13, bv_co, bv_en]]
                          exact hP
                        exact bv_iret hx hb hr hlocks hS (Nat.le_of_ble_eq_true rfl) (Nat.le_of_ble_eq_true rfl) dX3_enter_156 (by simp [sp_enter, r_1, bv_cl hj (by decide : 8 < 2 ^ 31), r_2, bv_cl hq (by decide : 16 < 2 ^ 31), r_3, c_4t, c_5, c_6, c_7, c_8, c_9, c_10, c_11, bv_nb, bv_up_at, bv_fr12, bv_fr13, bv_co, bv_en]) hW
                      · exact absurd (c_7.symm.trans c_11) (by decide)
                  · exact absurd (c_7.symm.trans c_9) (by decide)
          · have c_5 : ¬ (bv_rt M j q) = 3 := c_5
            refine lv_iload_n hx hb dX3_enter_63 rfl (lv_at hl 4 rfl) ?_
            refine lv_bipush (v := 60) hx hb dX3_enter_64 (by decide) ?_
            refine lv_icmp_ge (tgt := 73) hx hb dX3_enter_66 (by decide) (fun c_12 => ?_) (fun c_12 => ?_)
            · have c_12 : (60 : Int32) ≤ p2 := c_12
              have c_l : ¬ p2 < 60 := bv_ln c_12
              refine lv_iload hx hb dX3_enter_73 (lv_at hl 0 rfl) ?_
              refine lv_istore (lv' := [(5, .int (bv_rt M j q)), (4, .int (bv_rt M j q)), (0, .ref (bv_a G 43)), (1, .int (nI j)), (2, .int (nI q)), (3, .int p2)]) hx hb dX3_enter_75 hl (by decide) rfl (fun ls hl => ?_)
              refine lv_aload_n hx hb dX3_enter_77 rfl (lv_at hl 2 rfl) ?_
              refine bv_get_f (ci := 3) (C := RX3) (T := TX3) (N := 21) hx hb hts hin3 hown hK hP (bv_c43 G _ _ _) rfl 4 (by decide) wl1 rfl rfl dX3_enter_78 ?_
              refine lv_iload_n hx hb dX3_enter_81 rfl (lv_at hl 4 rfl) ?_
              refine lv_dup2_11 hx hb dX3_enter_82 rfl rfl ?_
              refine bv_iald hx hb hK hP 46 (bv_c46 G _ _ _) q (rfl) (hq) (by decide) dX3_enter_83 ?_
              refine lv_iload hx hb dX3_enter_84 (lv_at hl 0 rfl) ?_
              refine lv_iconst (v := 2) hx hb dX3_enter_86 (by decide) ?_
              refine lv_icmp_eq (tgt := 96) hx hb dX3_enter_87 (by decide) (fun c_13 => ?_) (fun c_13 => ?_)
              · exact absurd c_13 bv_rt_n2
              · have c_13 : ¬ (bv_rt M j q) = 2 := c_13
                refine lv_iload hx hb dX3_enter_90 (lv_at hl 0 rfl) ?_
                refine lv_iconst (v := 3) hx hb dX3_enter_92 (by decide) ?_
                refine lv_icmp_ne (tgt := 100) hx hb dX3_enter_93 (by decide) (fun c_14 => ?_) (fun c_14 => ?_)
                · have c_14 : ¬ (bv_rt M j q) = 3 := c_14
                  refine lv_iconst (v := 0) hx hb dX3_enter_100 (by decide) ?_
                  refine lv_iadd hx hb dX3_enter_101 ?_
                  refine bv_iast hx hb hK hP hS 46 (bv_c46 G _ _ _ ) q (rfl) (hq) (by decide) (bv_s46 G _ _ _ _ _) dX3_enter_102 (fun H locs hP hS => ?_)
                  refine lv_aload_n hx hb dX3_enter_103 rfl (lv_at hl 2 rfl) ?_
                  refine bv_get_f (ci := 3) (C := RX3) (T := TX3) (N := 21) hx hb hts hin3 hown hK hP (bv_c43 G _ _ _) rfl 8 (by decide) wl2 rfl rfl dX3_enter_104 ?_
                  refine lv_iload_n hx hb dX3_enter_107 rfl (lv_at hl 3 rfl) ?_
                  refine lv_dup2_11 hx hb dX3_enter_108 rfl rfl ?_
                  refine bv_iald hx hb hK hP 50 (bv_c50 G _ _ _) j (rfl) (hj) (by decide) dX3_enter_109 ?_
                  refine lv_iload hx hb dX3_enter_110 (lv_at hl 0 rfl) ?_
                  refine lv_if_eq (tgt := 121) hx hb dX3_enter_112 (by decide) (fun c_15 => ?_) (fun c_15 => ?_)
                  · have c_15 : (bv_rt M j q) = 0 := c_15
                    refine lv_iconst (v := 1) hx hb dX3_enter_121 (by decide) ?_
                    refine lv_goto (tgt := 126) hx hb dX3_enter_122 (by decide) ?_
                    refine lv_iadd hx hb dX3_enter_126 ?_
                    refine bv_iast hx hb hK hP hS 50 (bv_c50 G _ _ _ ) j (rfl) (hj) (by decide) (bv_s50 G _ _ _ _ _) dX3_enter_127 (fun H locs hP hS => ?_)
                    refine lv_aload_n hx hb dX3_enter_128 rfl (lv_at hl 2 rfl) ?_
                    refine bv_get_f (ci := 3) (C := RX3) (T := TX3) (N := 21) hx hb hts hin3 hown hK hP (bv_c43 G _ _ _) rfl 9 (by decide) wl3 rfl rfl dX3_enter_129 ?_
                    refine lv_iload_n hx hb dX3_enter_132 rfl (lv_at hl 3 rfl) ?_
                    refine lv_aload_n hx hb dX3_enter_133 rfl (lv_at hl 2 rfl) ?_
                    refine bv_get_f (ci := 3) (C := RX3) (T := TX3) (N := 21) hx hb hts hin3 hown hK hP (bv_c43 G _ _ _) rfl 9 (by decide) wl3 rfl rfl dX3_enter_134 ?_
                    refine lv_iload_n hx hb dX3_enter_137 rfl (lv_at hl 3 rfl) ?_
                    refine bv_zald hx hb hK hP 51 (bv_c51 G _ _ _) j (rfl) (hj) (by decide) dX3_enter_138 ?_
                    refine lv_if_ne (tgt := 148) hx hb dX3_enter_139 (by decide) (fun c_16 => ?_) (fun c_16 => ?_)
                    · have c_16 : ¬ (M 14 j) = 0 := c_16
                      refine lv_iconst (v := 1) hx hb dX3_enter_148 (by decide) ?_
                      refine lv_goto (tgt := 153) hx hb dX3_enter_149 (by decide) ?_
                      refine bv_zast hx hb hK hP hS 51 (bv_c51 G _ _ _ ) j (rfl) (hj) (by decide) (rfl) (bv_s51 G _ _ _ _ _) dX3_enter_153 (fun H locs hP hS => ?_)
                      refine lv_iload hx hb dX3_enter_154 (lv_at hl 0 rfl) ?_
                      have hW : bv_H G S ((sp_enter M (nI j) (nI q) p2).2.2) ((sp_enter M (nI j) (nI q) p2).1, z.2) H := by
                        rw [show (sp_enter M (nI j) (nI q) p2).2.2 = bv_up (bv_up (bv_up M 3 q ((M 3 q) + 0)) 13 j ((M 13 j) + 1)) 14 j 1 from by simp [sp_enter, r_1, bv_cl hj (by decide : 8 < 2 ^ 31), r_2, bv_cl hq (by decide : 16 < 2 ^ 31), r_3, c_4t, c_5, c_l, c_13, c_14, c_15, c_16, bv_nb, bv_up_at, bv_fr12, bv_fr13, bv_co, bv_en]]
                        rw [show (sp_enter M (nI j) (nI q) p2).1 = 0 from by simp [sp_enter, r_1, bv_cl hj (by decide : 8 < 2 ^ 31), r_2, bv_cl hq (by decide : 16 < 2 ^ 31), r_3, c_4t, c_5, c_l, c_13, c_14, c_15, c_16, bv_nb, bv_up_at, bv_fr12, bv_fr13, bv_co, bv_en]]
                        exact hP
                      exact bv_iret hx hb hr hlocks hS (Nat.le_of_ble_eq_true rfl) (Nat.le_of_ble_eq_true rfl) dX3_enter_156 (by simp [sp_enter, r_1, bv_cl hj (by decide : 8 < 2 ^ 31), r_2, bv_cl hq (by decide : 16 < 2 ^ 31), r_3, c_4t, c_5, c_l, c_13, c_14, c_15, c_16, bv_nb, bv_up_at, bv_fr12, bv_fr13, bv_co, bv_en]) hW
                    · have c_16 : (M 14 j) = 0 := c_16
                      refine lv_iload hx hb dX3_enter_142 (lv_at hl 0 rfl) ?_
                      refine lv_iconst (v := 1) hx hb dX3_enter_144 (by decide) ?_
                      refine lv_icmp_ne (tgt := 152) hx hb dX3_enter_145 (by decide) (fun c_17 => ?_) (fun c_17 => ?_)
                      · have c_17 : ¬ (bv_rt M j q) = 1 := c_17
                        refine lv_iconst (v := 0) hx hb dX3_enter_152 (by decide) ?_
                        refine bv_zast hx hb hK hP hS 51 (bv_c51 G _ _ _ ) j (rfl) (hj) (by decide) (rfl) (bv_s51 G _ _ _ _ _) dX3_enter_153 (fun H locs hP hS => ?_)
                        refine lv_iload hx hb dX3_enter_154 (lv_at hl 0 rfl) ?_
                        have hW : bv_H G S ((sp_enter M (nI j) (nI q) p2).2.2) ((sp_enter M (nI j) (nI q) p2).1, z.2) H := by
                          rw [show (sp_enter M (nI j) (nI q) p2).2.2 = bv_up (bv_up (bv_up M 3 q ((M 3 q) + 0)) 13 j ((M 13 j) + 1)) 14 j 0 from by simp [sp_enter, r_1, bv_cl hj (by decide : 8 < 2 ^ 31), r_2, bv_cl hq (by decide : 16 < 2 ^ 31), r_3, c_4t, c_5, c_l, c_13, c_14, c_15, c_16, c_17, bv_nb, bv_up_at, bv_fr12, bv_fr13, bv_co, bv_en]]
                          rw [show (sp_enter M (nI j) (nI q) p2).1 = 0 from by simp [sp_enter, r_1, bv_cl hj (by decide : 8 < 2 ^ 31), r_2, bv_cl hq (by decide : 16 < 2 ^ 31), r_3, c_4t, c_5, c_l, c_13, c_14, c_15, c_16, c_17, bv_nb, bv_up_at, bv_fr12, bv_fr13, bv_co, bv_en]]
                          exact hP
                        exact bv_iret hx hb hr hlocks hS (Nat.le_of_ble_eq_true rfl) (Nat.le_of_ble_eq_true rfl) dX3_enter_156 (by simp [sp_enter, r_1, bv_cl hj (by decide : 8 < 2 ^ 31), r_2, bv_cl hq (by decide : 16 < 2 ^ 31), r_3, c_4t, c_5, c_l, c_13, c_14, c_15, c_16, c_17, bv_nb, bv_up_at, bv_fr12, bv_fr13, bv_co, bv_en]) hW
                      · exact absurd (c_15.symm.trans c_17) (by decide)
                  · have c_15 : ¬ (bv_rt M j q) = 0 := c_15
                    refine lv_iload hx hb dX3_enter_115 (lv_at hl 0 rfl) ?_
                    refine lv_iconst (v := 1) hx hb dX3_enter_117 (by decide) ?_
                    refine lv_icmp_ne (tgt := 125) hx hb dX3_enter_118 (by decide) (fun c_18 => ?_) (fun c_18 => ?_)
                    · exact absurd (bv_rt_0 c_18 c_14) c_15
                    · have c_18 : (bv_rt M j q) = 1 := c_18
                      refine lv_iconst (v := 1) hx hb dX3_enter_121 (by decide) ?_
                      refine lv_goto (tgt := 126) hx hb dX3_enter_122 (by decide) ?_
                      refine lv_iadd hx hb dX3_enter_126 ?_
                      refine bv_iast hx hb hK hP hS 50 (bv_c50 G _ _ _ ) j (rfl) (hj) (by decide) (bv_s50 G _ _ _ _ _) dX3_enter_127 (fun H locs hP hS => ?_)
                      refine lv_aload_n hx hb dX3_enter_128 rfl (lv_at hl 2 rfl) ?_
                      refine bv_get_f (ci := 3) (C := RX3) (T := TX3) (N := 21) hx hb hts hin3 hown hK hP (bv_c43 G _ _ _) rfl 9 (by decide) wl3 rfl rfl dX3_enter_129 ?_
                      refine lv_iload_n hx hb dX3_enter_132 rfl (lv_at hl 3 rfl) ?_
                      refine lv_aload_n hx hb dX3_enter_133 rfl (lv_at hl 2 rfl) ?_
                      refine bv_get_f (ci := 3) (C := RX3) (T := TX3) (N := 21) hx hb hts hin3 hown hK hP (bv_c43 G _ _ _) rfl 9 (by decide) wl3 rfl rfl dX3_enter_134 ?_
                      refine lv_iload_n hx hb dX3_enter_137 rfl (lv_at hl 3 rfl) ?_
                      refine bv_zald hx hb hK hP 51 (bv_c51 G _ _ _) j (rfl) (hj) (by decide) dX3_enter_138 ?_
                      refine lv_if_ne (tgt := 148) hx hb dX3_enter_139 (by decide) (fun c_19 => ?_) (fun c_19 => ?_)
                      · have c_19 : ¬ (M 14 j) = 0 := c_19
                        refine lv_iconst (v := 1) hx hb dX3_enter_148 (by decide) ?_
                        refine lv_goto (tgt := 153) hx hb dX3_enter_149 (by decide) ?_
                        refine bv_zast hx hb hK hP hS 51 (bv_c51 G _ _ _ ) j (rfl) (hj) (by decide) (rfl) (bv_s51 G _ _ _ _ _) dX3_enter_153 (fun H locs hP hS => ?_)
                        refine lv_iload hx hb dX3_enter_154 (lv_at hl 0 rfl) ?_
                        have hW : bv_H G S ((sp_enter M (nI j) (nI q) p2).2.2) ((sp_enter M (nI j) (nI q) p2).1, z.2) H := by
                          rw [show (sp_enter M (nI j) (nI q) p2).2.2 = bv_up (bv_up (bv_up M 3 q ((M 3 q) + 0)) 13 j ((M 13 j) + 1)) 14 j 1 from by simp [sp_enter, r_1, bv_cl hj (by decide : 8 < 2 ^ 31), r_2, bv_cl hq (by decide : 16 < 2 ^ 31), r_3, c_4t, c_5, c_l, c_13, c_14, c_15, c_18, c_19, bv_nb, bv_up_at, bv_fr12, bv_fr13, bv_co, bv_en]]
                          rw [show (sp_enter M (nI j) (nI q) p2).1 = 0 from by simp [sp_enter, r_1, bv_cl hj (by decide : 8 < 2 ^ 31), r_2, bv_cl hq (by decide : 16 < 2 ^ 31), r_3, c_4t, c_5, c_l, c_13, c_14, c_15, c_18, c_19, bv_nb, bv_up_at, bv_fr12, bv_fr13, bv_co, bv_en]]
                          exact hP
                        exact bv_iret hx hb hr hlocks hS (Nat.le_of_ble_eq_true rfl) (Nat.le_of_ble_eq_true rfl) dX3_enter_156 (by simp [sp_enter, r_1, bv_cl hj (by decide : 8 < 2 ^ 31), r_2, bv_cl hq (by decide : 16 < 2 ^ 31), r_3, c_4t, c_5, c_l, c_13, c_14, c_15, c_18, c_19, bv_nb, bv_up_at, bv_fr12, bv_fr13, bv_co, bv_en]) hW
                      · have c_19 : (M 14 j) = 0 := c_19
                        refine lv_iload hx hb dX3_enter_142 (lv_at hl 0 rfl) ?_
                        refine lv_iconst (v := 1) hx hb dX3_enter_144 (by decide) ?_
                        refine lv_icmp_ne (tgt := 152) hx hb dX3_enter_145 (by decide) (fun c_20 => ?_) (fun c_20 => ?_)
                        · exact absurd c_18 c_20
                        · have c_20 : (bv_rt M j q) = 1 := c_20
                          refine lv_iconst (v := 1) hx hb dX3_enter_148 (by decide) ?_
                          refine lv_goto (tgt := 153) hx hb dX3_enter_149 (by decide) ?_
                          refine bv_zast hx hb hK hP hS 51 (bv_c51 G _ _ _ ) j (rfl) (hj) (by decide) (rfl) (bv_s51 G _ _ _ _ _) dX3_enter_153 (fun H locs hP hS => ?_)
                          refine lv_iload hx hb dX3_enter_154 (lv_at hl 0 rfl) ?_
                          have hW : bv_H G S ((sp_enter M (nI j) (nI q) p2).2.2) ((sp_enter M (nI j) (nI q) p2).1, z.2) H := by
                            rw [show (sp_enter M (nI j) (nI q) p2).2.2 = bv_up (bv_up (bv_up M 3 q ((M 3 q) + 0)) 13 j ((M 13 j) + 1)) 14 j 1 from by simp [sp_enter, r_1, bv_cl hj (by decide : 8 < 2 ^ 31), r_2, bv_cl hq (by decide : 16 < 2 ^ 31), r_3, c_4t, c_5, c_l, c_13, c_14, c_15, c_18, c_19, c_20, bv_nb, bv_up_at, bv_fr12, bv_fr13, bv_co, bv_en]]
                            rw [show (sp_enter M (nI j) (nI q) p2).1 = 0 from by simp [sp_enter, r_1, bv_cl hj (by decide : 8 < 2 ^ 31), r_2, bv_cl hq (by decide : 16 < 2 ^ 31), r_3, c_4t, c_5, c_l, c_13, c_14, c_15, c_18, c_19, c_20, bv_nb, bv_up_at, bv_fr12, bv_fr13, bv_co, bv_en]]
                            exact hP
                          exact bv_iret hx hb hr hlocks hS (Nat.le_of_ble_eq_true rfl) (Nat.le_of_ble_eq_true rfl) dX3_enter_156 (by simp [sp_enter, r_1, bv_cl hj (by decide : 8 < 2 ^ 31), r_2, bv_cl hq (by decide : 16 < 2 ^ 31), r_3, c_4t, c_5, c_l, c_13, c_14, c_15, c_18, c_19, c_20, bv_nb, bv_up_at, bv_fr12, bv_fr13, bv_co, bv_en]) hW
                · exact absurd c_14 c_5
            · have c_12 : ¬ (60 : Int32) ≤ p2 := c_12
              have c_f21 : p2 < 60 := bv_nlt c_12
              refine lv_iconst (v := 2) hx hb dX3_enter_69 (by decide) ?_
              refine lv_goto (tgt := 75) hx hb dX3_enter_70 (by decide) ?_
              refine lv_istore (lv' := [(5, .int 2), (4, .int (bv_rt M j q)), (0, .ref (bv_a G 43)), (1, .int (nI j)), (2, .int (nI q)), (3, .int p2)]) hx hb dX3_enter_75 hl (by decide) rfl (fun ls hl => ?_)
              refine lv_aload_n hx hb dX3_enter_77 rfl (lv_at hl 2 rfl) ?_
              refine bv_get_f (ci := 3) (C := RX3) (T := TX3) (N := 21) hx hb hts hin3 hown hK hP (bv_c43 G _ _ _) rfl 4 (by decide) wl1 rfl rfl dX3_enter_78 ?_
              refine lv_iload_n hx hb dX3_enter_81 rfl (lv_at hl 4 rfl) ?_
              refine lv_dup2_11 hx hb dX3_enter_82 rfl rfl ?_
              refine bv_iald hx hb hK hP 46 (bv_c46 G _ _ _) q (rfl) (hq) (by decide) dX3_enter_83 ?_
              refine lv_iload hx hb dX3_enter_84 (lv_at hl 0 rfl) ?_
              refine lv_iconst (v := 2) hx hb dX3_enter_86 (by decide) ?_
              refine lv_icmp_eq (tgt := 96) hx hb dX3_enter_87 (by decide) (fun c_22 => ?_) (fun c_22 => ?_)
              · have c_22 : (2 : Int32) = 2 := c_22
                refine lv_iconst (v := 1) hx hb dX3_enter_96 (by decide) ?_
                refine lv_goto (tgt := 101) hx hb dX3_enter_97 (by decide) ?_
                refine lv_iadd hx hb dX3_enter_101 ?_
                refine bv_iast hx hb hK hP hS 46 (bv_c46 G _ _ _ ) q (rfl) (hq) (by decide) (bv_s46 G _ _ _ _ _) dX3_enter_102 (fun H locs hP hS => ?_)
                refine lv_aload_n hx hb dX3_enter_103 rfl (lv_at hl 2 rfl) ?_
                refine bv_get_f (ci := 3) (C := RX3) (T := TX3) (N := 21) hx hb hts hin3 hown hK hP (bv_c43 G _ _ _) rfl 8 (by decide) wl2 rfl rfl dX3_enter_104 ?_
                refine lv_iload_n hx hb dX3_enter_107 rfl (lv_at hl 3 rfl) ?_
                refine lv_dup2_11 hx hb dX3_enter_108 rfl rfl ?_
                refine bv_iald hx hb hK hP 50 (bv_c50 G _ _ _) j (rfl) (hj) (by decide) dX3_enter_109 ?_
                refine lv_iload hx hb dX3_enter_110 (lv_at hl 0 rfl) ?_
                refine lv_if_eq (tgt := 121) hx hb dX3_enter_112 (by decide) (fun c_23 => ?_) (fun c_23 => ?_)
                · exact absurd c_23 (show ¬ ((2 : Int32) = 0) from by decide)
                · have c_23 : ¬ (2 : Int32) = 0 := c_23
                  refine lv_iload hx hb dX3_enter_115 (lv_at hl 0 rfl) ?_
                  refine lv_iconst (v := 1) hx hb dX3_enter_117 (by decide) ?_
                  refine lv_icmp_ne (tgt := 125) hx hb dX3_enter_118 (by decide) (fun c_24 => ?_) (fun c_24 => ?_)
                  · have c_24 : ¬ (2 : Int32) = 1 := c_24
                    refine lv_iconst (v := 0) hx hb dX3_enter_125 (by decide) ?_
                    refine lv_iadd hx hb dX3_enter_126 ?_
                    refine bv_iast hx hb hK hP hS 50 (bv_c50 G _ _ _ ) j (rfl) (hj) (by decide) (bv_s50 G _ _ _ _ _) dX3_enter_127 (fun H locs hP hS => ?_)
                    refine lv_aload_n hx hb dX3_enter_128 rfl (lv_at hl 2 rfl) ?_
                    refine bv_get_f (ci := 3) (C := RX3) (T := TX3) (N := 21) hx hb hts hin3 hown hK hP (bv_c43 G _ _ _) rfl 9 (by decide) wl3 rfl rfl dX3_enter_129 ?_
                    refine lv_iload_n hx hb dX3_enter_132 rfl (lv_at hl 3 rfl) ?_
                    refine lv_aload_n hx hb dX3_enter_133 rfl (lv_at hl 2 rfl) ?_
                    refine bv_get_f (ci := 3) (C := RX3) (T := TX3) (N := 21) hx hb hts hin3 hown hK hP (bv_c43 G _ _ _) rfl 9 (by decide) wl3 rfl rfl dX3_enter_134 ?_
                    refine lv_iload_n hx hb dX3_enter_137 rfl (lv_at hl 3 rfl) ?_
                    refine bv_zald hx hb hK hP 51 (bv_c51 G _ _ _) j (rfl) (hj) (by decide) dX3_enter_138 ?_
                    refine lv_if_ne (tgt := 148) hx hb dX3_enter_139 (by decide) (fun c_25 => ?_) (fun c_25 => ?_)
                    · have c_25 : ¬ (M 14 j) = 0 := c_25
                      refine lv_iconst (v := 1) hx hb dX3_enter_148 (by decide) ?_
                      refine lv_goto (tgt := 153) hx hb dX3_enter_149 (by decide) ?_
                      refine bv_zast hx hb hK hP hS 51 (bv_c51 G _ _ _ ) j (rfl) (hj) (by decide) (rfl) (bv_s51 G _ _ _ _ _) dX3_enter_153 (fun H locs hP hS => ?_)
                      refine lv_iload hx hb dX3_enter_154 (lv_at hl 0 rfl) ?_
                      have hW : bv_H G S ((sp_enter M (nI j) (nI q) p2).2.2) ((sp_enter M (nI j) (nI q) p2).1, z.2) H := by
                        rw [show (sp_enter M (nI j) (nI q) p2).2.2 = bv_up (bv_up (bv_up M 3 q ((M 3 q) + 1)) 13 j ((M 13 j) + 0)) 14 j 1 from by simp [sp_enter, r_1, bv_cl hj (by decide : 8 < 2 ^ 31), r_2, bv_cl hq (by decide : 16 < 2 ^ 31), r_3, c_4t, c_5, c_f21, c_22, c_23, c_24, c_25, bv_nb, bv_up_at, bv_fr12, bv_fr13, bv_co, bv_en]]
                        rw [show (sp_enter M (nI j) (nI q) p2).1 = 0 from by simp [sp_enter, r_1, bv_cl hj (by decide : 8 < 2 ^ 31), r_2, bv_cl hq (by decide : 16 < 2 ^ 31), r_3, c_4t, c_5, c_f21, c_22, c_23, c_24, c_25, bv_nb, bv_up_at, bv_fr12, bv_fr13, bv_co, bv_en]]
                        exact hP
                      exact bv_iret hx hb hr hlocks hS (Nat.le_of_ble_eq_true rfl) (Nat.le_of_ble_eq_true rfl) dX3_enter_156 (by simp [sp_enter, r_1, bv_cl hj (by decide : 8 < 2 ^ 31), r_2, bv_cl hq (by decide : 16 < 2 ^ 31), r_3, c_4t, c_5, c_f21, c_22, c_23, c_24, c_25, bv_nb, bv_up_at, bv_fr12, bv_fr13, bv_co, bv_en]) hW
                    · have c_25 : (M 14 j) = 0 := c_25
                      refine lv_iload hx hb dX3_enter_142 (lv_at hl 0 rfl) ?_
                      refine lv_iconst (v := 1) hx hb dX3_enter_144 (by decide) ?_
                      refine lv_icmp_ne (tgt := 152) hx hb dX3_enter_145 (by decide) (fun c_26 => ?_) (fun c_26 => ?_)
                      · have c_26 : ¬ (2 : Int32) = 1 := c_26
                        refine lv_iconst (v := 0) hx hb dX3_enter_152 (by decide) ?_
                        refine bv_zast hx hb hK hP hS 51 (bv_c51 G _ _ _ ) j (rfl) (hj) (by decide) (rfl) (bv_s51 G _ _ _ _ _) dX3_enter_153 (fun H locs hP hS => ?_)
                        refine lv_iload hx hb dX3_enter_154 (lv_at hl 0 rfl) ?_
                        have hW : bv_H G S ((sp_enter M (nI j) (nI q) p2).2.2) ((sp_enter M (nI j) (nI q) p2).1, z.2) H := by
                          rw [show (sp_enter M (nI j) (nI q) p2).2.2 = bv_up (bv_up (bv_up M 3 q ((M 3 q) + 1)) 13 j ((M 13 j) + 0)) 14 j 0 from by simp [sp_enter, r_1, bv_cl hj (by decide : 8 < 2 ^ 31), r_2, bv_cl hq (by decide : 16 < 2 ^ 31), r_3, c_4t, c_5, c_f21, c_22, c_23, c_24, c_25, c_26, bv_nb, bv_up_at, bv_fr12, bv_fr13, bv_co, bv_en]]
                          rw [show (sp_enter M (nI j) (nI q) p2).1 = 0 from by simp [sp_enter, r_1, bv_cl hj (by decide : 8 < 2 ^ 31), r_2, bv_cl hq (by decide : 16 < 2 ^ 31), r_3, c_4t, c_5, c_f21, c_22, c_23, c_24, c_25, c_26, bv_nb, bv_up_at, bv_fr12, bv_fr13, bv_co, bv_en]]
                          exact hP
                        exact bv_iret hx hb hr hlocks hS (Nat.le_of_ble_eq_true rfl) (Nat.le_of_ble_eq_true rfl) dX3_enter_156 (by simp [sp_enter, r_1, bv_cl hj (by decide : 8 < 2 ^ 31), r_2, bv_cl hq (by decide : 16 < 2 ^ 31), r_3, c_4t, c_5, c_f21, c_22, c_23, c_24, c_25, c_26, bv_nb, bv_up_at, bv_fr12, bv_fr13, bv_co, bv_en]) hW
                      · exact absurd c_26 (show ¬ ((2 : Int32) = 1) from by decide)
                  · exact absurd c_24 (show ¬ ((2 : Int32) = 1) from by decide)
              · exact absurd c_22 (show ¬ (¬ (2 : Int32) = 2) from by decide)
        · have c_4t := eq_false c_4
          refine lv_aload_n hx hb dX3_enter_43 rfl (lv_at hl 0 rfl) ?_
          refine lv_iconst (v := 2) hx hb dX3_enter_44 (by decide) ?_
          refine bv_ci (va_runV (As := [.int 2]) (rest := []) ⟨hx, hb, hml, hown, hts⟩ (c_X3_fails l G S M (0, z.2) 2 ) (cwV 1 hts gX3_enter_X3_fails rfl rfl rfl (by decide +kernel) ⟨Nat.le_of_ble_eq_true rfl, Nat.le_of_ble_eq_true rfl⟩) (bv_preV hz hP hK hE hS (ci := 3) (bv_c43 G _ _ _) rfl rfl) rfl rfl hl.1 rfl (lv_room (Nat.le_of_ble_eq_true rfl)) dX3_enter_45 ⟨Nat.le_of_ble_eq_true rfl, Nat.le_of_ble_eq_true rfl⟩) hS (fun H locs hP hS => ?_)
          have hW : bv_H G S ((sp_enter M (nI j) (nI q) p2).2.2) ((sp_enter M (nI j) (nI q) p2).1, z.2) H := by
            rw [show (sp_enter M (nI j) (nI q) p2).2.2 = M from by simp [sp_enter, r_1, bv_cl hj (by decide : 8 < 2 ^ 31), r_2, bv_cl hq (by decide : 16 < 2 ^ 31), r_3, c_4t, bv_nb, bv_up_at, bv_fr12, bv_fr13, bv_co, bv_en]]
            rw [show (sp_enter M (nI j) (nI q) p2).1 = 2 from by simp [sp_enter, r_1, bv_cl hj (by decide : 8 < 2 ^ 31), r_2, bv_cl hq (by decide : 16 < 2 ^ 31), r_3, c_4t, bv_nb, bv_up_at, bv_fr12, bv_fr13, bv_co, bv_en]]
            exact hP
          exact bv_iret hx hb hr hlocks hS (Nat.le_of_ble_eq_true rfl) (Nat.le_of_ble_eq_true rfl) dX3_enter_48 (by simp [sp_enter, r_1, bv_cl hj (by decide : 8 < 2 ^ 31), r_2, bv_cl hq (by decide : 16 < 2 ^ 31), r_3, c_4t, bv_nb, bv_up_at, bv_fr12, bv_fr13, bv_co, bv_en]) hW
      · have r_3 := bv_rb_f c_3
        refine lv_aload_n hx hb dX3_enter_29 rfl (lv_at hl 0 rfl) ?_
        refine lv_iconst (v := 1) hx hb dX3_enter_30 (by decide) ?_
        refine bv_ci (va_runV (As := [.int 1]) (rest := []) ⟨hx, hb, hml, hown, hts⟩ (c_X3_fails l G S M (0, z.2) 1 ) (cwV 1 hts gX3_enter_X3_fails rfl rfl rfl (by decide +kernel) ⟨Nat.le_of_ble_eq_true rfl, Nat.le_of_ble_eq_true rfl⟩) (bv_preV hz hP hK hE hS (ci := 3) (bv_c43 G _ _ _) rfl rfl) rfl rfl hl.1 rfl (lv_room (Nat.le_of_ble_eq_true rfl)) dX3_enter_31 ⟨Nat.le_of_ble_eq_true rfl, Nat.le_of_ble_eq_true rfl⟩) hS (fun H locs hP hS => ?_)
        have hW : bv_H G S ((sp_enter M (nI j) (nI q) p2).2.2) ((sp_enter M (nI j) (nI q) p2).1, z.2) H := by
          rw [show (sp_enter M (nI j) (nI q) p2).2.2 = M from by simp [sp_enter, r_1, bv_cl hj (by decide : 8 < 2 ^ 31), r_2, bv_cl hq (by decide : 16 < 2 ^ 31), r_3, bv_nb, bv_up_at, bv_fr12, bv_fr13, bv_co, bv_en]]
          rw [show (sp_enter M (nI j) (nI q) p2).1 = 1 from by simp [sp_enter, r_1, bv_cl hj (by decide : 8 < 2 ^ 31), r_2, bv_cl hq (by decide : 16 < 2 ^ 31), r_3, bv_nb, bv_up_at, bv_fr12, bv_fr13, bv_co, bv_en]]
          exact hP
        exact bv_iret hx hb hr hlocks hS (Nat.le_of_ble_eq_true rfl) (Nat.le_of_ble_eq_true rfl) dX3_enter_34 (by simp [sp_enter, r_1, bv_cl hj (by decide : 8 < 2 ^ 31), r_2, bv_cl hq (by decide : 16 < 2 ^ 31), r_3, bv_nb, bv_up_at, bv_fr12, bv_fr13, bv_co, bv_en]) hW
set_option maxHeartbeats 4000000 in
set_option maxRecDepth 100000 in
theorem c_X3_mayAll (l : Launch) (G : bv_G) (S M : bv_X) (z : bv_Z) (n : Nat) (p0 : Int32) (hn : n ≤ 1000) (hI : bv_I n M) : bv_M l yX3_mayAll wsX3_mayAll ({ frames := 3, cells := 0, slots := 0, locals := 69 }) [.ref (bv_a G 43), .int p0] G S M z ((sp_mayAll M p0).2.1) S ((sp_mayAll M p0).2.2) ((sp_mayAll M p0).1, z.2) := by
  refine Met.ofW (cc := cX3_mayAll) (maxL := 4) (ret := (some .int)) (by decide) rfl ?_
  intro p e s m args below meth c s₁ B hml hv
  obtain ⟨rfl, hz, hP, hK, hE⟩ := hv
  have hx := B.exec
  have hb := B.bytes
  have hr := B.returns
  have hts := atoms_spec (ws := wsX3_mayAll) B.pre
  have hown : s.vm.findClass RX3 = some m.cls := findClass_of_methodNamed B.named
  have hlocks := B.notSynchronized
  have hS : va_S (bv_A G) s.heap s.heap [] := va_S.rf
  have wl0 := hts (.fieldLink RX3 65 "BoxVaultModel" "thrown" "I") (by decide +kernel)
  have hin3 : ∀ w ∈ wsX30, w ∈ wsX3_mayAll := (fun w h => List.mem_cons_of_mem _ (List.mem_append_right _ h))
  have hl := lv_entry ([.ref (bv_a G 43), .int p0]) (n := 4) (Nat.le_of_ble_eq_true rfl)
  rw [lg_entry_eq]
  generalize (lg_sl ([.ref (bv_a G 43), .int p0]) ++ List.replicate (4 - (lg_sl ([.ref (bv_a G 43), .int p0])).length) Slot.unset).toArray = ls at hl ⊢
  have hl : lv_has ls 4 [(0, .ref (bv_a G 43)), (1, .int p0)] := hl
  refine lv_aload_n hx hb dX3_mayAll_0 rfl (lv_at hl 0 rfl) ?_
  refine lv_iconst (v := 0) hx hb dX3_mayAll_1 (by decide) ?_
  refine bv_put_f (ci := 3) (C := RX3) (T := TX3) (N := 21) (ty := .int) hx hb hts hin3 tyX3 tyX3_ok nmX3 hown hK hP hS (bv_c43 G _ _ _) rfl 0 (by decide) wl0 rfl rfl rfl rfl rfl (Nat.le_of_ble_eq_true rfl) rfl (bv_sth G _ _ _ _) dX3_mayAll_2 (fun H locs hP hS => ?_)
  refine lv_iload_n hx hb dX3_mayAll_5 rfl (lv_at hl 1 rfl) ?_
  refine bv_ci (va_runS (As := [.int p0]) (rest := []) ⟨hx, hb, hml, hown, hts⟩ (c_X3_isBox l G S M (0, z.2) p0 ) (va_cwS 1 hts gX3_mayAll_X3_isBox rfl rfl rfl (by decide +kernel) ⟨Nat.le_of_ble_eq_true rfl, Nat.le_of_ble_eq_true rfl⟩) (bv_preS hz hP hK hE hS) rfl rfl hl.1 rfl (lv_room (Nat.le_of_ble_eq_true rfl)) dX3_mayAll_6 ⟨Nat.le_of_ble_eq_true rfl, Nat.le_of_ble_eq_true rfl⟩) hS (fun H locs hP hS => ?_)
  refine bv_ifneB (tgt := 18) hx hb dX3_mayAll_9 (by decide) (fun c_1 => ?_) (fun c_1 => ?_)
  · have r_1 := bv_rb_t c_1
    obtain ⟨j, hj, ej⟩ := bv_of8 c_1
    subst ej
    refine lv_iconst (v := 0) hx hb dX3_mayAll_18 (by decide) ?_
    refine lv_istore_n (lv' := [(2, .int 0), (0, .ref (bv_a G 43)), (1, .int (nI j))]) hx hb dX3_mayAll_19 rfl hl (by decide) rfl (fun ls hl => ?_)
    refine lv_iconst (v := 0) hx hb dX3_mayAll_20 (by decide) ?_
    refine lv_istore_n (lv' := [(3, .int 0), (2, .int 0), (0, .ref (bv_a G 43)), (1, .int (nI j))]) hx hb dX3_mayAll_21 rfl hl (by decide) rfl (fun ls hl => ?_)
    refine bv_loop (G := G) (z := (0, z.2)) (nL := 4) (head := 22) 16 (fun i => S) (fun i => M) (fun i => [(0, .ref (bv_a G 43)), (1, .int (nI j)), (2, .int (bv_ma M j i)), (3, .int (nI i))]) (fun i => True) (fun i hi hv ih H locs ls hP hS hl => ?_) (trivial) _ _ _ hP hS (lv_sub hl [2, 3, 1, 0] rfl)
    have hP : bv_H G S M (0, z.2) H := hP
    have hl : lv_has ls 4 [(0, .ref (bv_a G 43)), (1, .int (nI j)), (2, .int (bv_ma M j i)), (3, .int (nI i))] := hl
    refine lv_iload_n hx hb dX3_mayAll_22 rfl (lv_at hl 3 rfl) ?_
    refine lv_bipush (v := 16) hx hb dX3_mayAll_23 (by decide) ?_
    refine lv_icmp_ge (tgt := 52) hx hb dX3_mayAll_25 (by decide) (fun c_2 => ?_) (fun c_2 => ?_)
    · have c_2 : (16 : Int32) ≤ (nI i) := c_2
      have ei : i = 16 := bv_eq_of (x := 16) (c := 16) rfl (by decide) hi c_2
      refine lv_iload_n hx hb dX3_mayAll_52 rfl (lv_at hl 2 rfl) ?_
      have hW : bv_H G S ((sp_mayAll M (nI j)).2.2) ((sp_mayAll M (nI j)).1, z.2) H := by
        rw [show (sp_mayAll M (nI j)).2.2 = M from by simp [sp_mayAll, r_1, bv_cl hj (by decide : 8 < 2 ^ 31), bv_nb, bv_up_at, bv_fr12, bv_fr13]]
        rw [show (sp_mayAll M (nI j)).1 = 0 from by simp [sp_mayAll, r_1, bv_cl hj (by decide : 8 < 2 ^ 31), bv_nb, bv_up_at, bv_fr12, bv_fr13]]
        exact hP
      exact bv_iret hx hb hr hlocks hS (Nat.le_of_ble_eq_true rfl) (Nat.le_of_ble_eq_true rfl) dX3_mayAll_53 (by first | (rw [ei]; simp [sp_mayAll, r_1, bv_cl hj (by decide : 8 < 2 ^ 31), bv_nb, bv_up_at, bv_fr12, bv_fr13]) | simp [sp_mayAll, r_1, bv_cl hj (by decide : 8 < 2 ^ 31), bv_nb, bv_up_at, bv_fr12, bv_fr13]) hW
    · have c_2 : ¬ (16 : Int32) ≤ (nI i) := c_2
      have hlt : i < 16 := bv_lt_of (x := 16) (c := 16) rfl (by decide) hi c_2
      refine lv_iload_n hx hb dX3_mayAll_28 rfl (lv_at hl 2 rfl) ?_
      refine lv_aload_n hx hb dX3_mayAll_29 rfl (lv_at hl 0 rfl) ?_
      refine lv_iload_n hx hb dX3_mayAll_30 rfl (lv_at hl 1 rfl) ?_
      refine lv_iload_n hx hb dX3_mayAll_31 rfl (lv_at hl 3 rfl) ?_
      refine bv_ci (va_runV (As := [.int (nI j), .int (nI i)]) (rest := [.int (bv_ma M j i)]) ⟨hx, hb, hml, hown, hts⟩ (c_X3_right l G S M (0, z.2) n j i (hn) (hI) (by omega) (by omega)) (cwV 2 hts gX3_mayAll_X3_right rfl rfl rfl (by decide +kernel) ⟨Nat.le_of_ble_eq_true rfl, Nat.le_of_ble_eq_true rfl⟩) (bv_preV hz hP hK hE hS (ci := 3) (bv_c43 G _ _ _) rfl rfl) rfl rfl hl.1 rfl (lv_room (Nat.le_of_ble_eq_true rfl)) dX3_mayAll_32 ⟨Nat.le_of_ble_eq_true rfl, Nat.le_of_ble_eq_true rfl⟩) hS (fun H locs hP hS => ?_)
      refine lv_iconst (v := 3) hx hb dX3_mayAll_35 (by decide) ?_
      refine lv_icmp_eq (tgt := 43) hx hb dX3_mayAll_36 (by decide) (fun c_3 => ?_) (fun c_3 => ?_)
      · have c_3 : (bv_rt M j i) = 3 := c_3
        refine lv_iconst (v := 0) hx hb dX3_mayAll_43 (by decide) ?_
        refine lv_iadd hx hb dX3_mayAll_44 ?_
        refine lv_istore_n (lv' := [(2, .int ((bv_ma M j i) + 0)), (0, .ref (bv_a G 43)), (1, .int (nI j)), (3, .int (nI i))]) hx hb dX3_mayAll_45 rfl hl (by decide) rfl (fun ls hl => ?_)
        refine lv_iinc (v := nI (i + 1)) (lv' := [(3, .int (nI (i + 1))), (2, .int ((bv_ma M j i) + 0)), (0, .ref (bv_a G 43)), (1, .int (nI j))]) hx hb dX3_mayAll_46 hl (k := 3) rfl (nI_1 _) (by decide) rfl (fun ls hl => ?_)
        refine lv_goto (tgt := 22) hx hb dX3_mayAll_49 (by decide) ?_
        have e_2 : (bv_ma M j i) + 0 = bv_ma M j (i + 1) := by rw [bv_ma_s]; first | rw [if_neg (by assumption)] | rw [if_pos (by assumption)]
        rw [e_2] at hl
        exact ih (by omega) (trivial) _ _ _ hP hS (lv_sub hl [2, 3, 1, 0] rfl)
      · have c_3 : ¬ (bv_rt M j i) = 3 := c_3
        refine lv_iconst (v := 1) hx hb dX3_mayAll_39 (by decide) ?_
        refine lv_goto (tgt := 44) hx hb dX3_mayAll_40 (by decide) ?_
        refine lv_iadd hx hb dX3_mayAll_44 ?_
        refine lv_istore_n (lv' := [(2, .int ((bv_ma M j i) + 1)), (0, .ref (bv_a G 43)), (1, .int (nI j)), (3, .int (nI i))]) hx hb dX3_mayAll_45 rfl hl (by decide) rfl (fun ls hl => ?_)
        refine lv_iinc (v := nI (i + 1)) (lv' := [(3, .int (nI (i + 1))), (2, .int ((bv_ma M j i) + 1)), (0, .ref (bv_a G 43)), (1, .int (nI j))]) hx hb dX3_mayAll_46 hl (k := 3) rfl (nI_1 _) (by decide) rfl (fun ls hl => ?_)
        refine lv_goto (tgt := 22) hx hb dX3_mayAll_49 (by decide) ?_
        have e_2 : (bv_ma M j i) + 1 = bv_ma M j (i + 1) := by rw [bv_ma_s]; first | rw [if_neg (by assumption)] | rw [if_pos (by assumption)]
        rw [e_2] at hl
        exact ih (by omega) (trivial) _ _ _ hP hS (lv_sub hl [2, 3, 1, 0] rfl)
  · have r_1 := bv_rb_f c_1
    refine lv_aload_n hx hb dX3_mayAll_12 rfl (lv_at hl 0 rfl) ?_
    refine lv_iconst (v := 1) hx hb dX3_mayAll_13 (by decide) ?_
    refine bv_ci (va_runV (As := [.int 1]) (rest := []) ⟨hx, hb, hml, hown, hts⟩ (c_X3_fails l G S M (0, z.2) 1 ) (cwV 1 hts gX3_mayAll_X3_fails rfl rfl rfl (by decide +kernel) ⟨Nat.le_of_ble_eq_true rfl, Nat.le_of_ble_eq_true rfl⟩) (bv_preV hz hP hK hE hS (ci := 3) (bv_c43 G _ _ _) rfl rfl) rfl rfl hl.1 rfl (lv_room (Nat.le_of_ble_eq_true rfl)) dX3_mayAll_14 ⟨Nat.le_of_ble_eq_true rfl, Nat.le_of_ble_eq_true rfl⟩) hS (fun H locs hP hS => ?_)
    have hW : bv_H G S ((sp_mayAll M p0).2.2) ((sp_mayAll M p0).1, z.2) H := by
      rw [show (sp_mayAll M p0).2.2 = M from by simp [sp_mayAll, r_1, bv_nb, bv_up_at, bv_fr12, bv_fr13]]
      rw [show (sp_mayAll M p0).1 = 1 from by simp [sp_mayAll, r_1, bv_nb, bv_up_at, bv_fr12, bv_fr13]]
      exact hP
    exact bv_iret hx hb hr hlocks hS (Nat.le_of_ble_eq_true rfl) (Nat.le_of_ble_eq_true rfl) dX3_mayAll_17 (by first | (rw [ei]; simp [sp_mayAll, r_1, bv_nb, bv_up_at, bv_fr12, bv_fr13]) | simp [sp_mayAll, r_1, bv_nb, bv_up_at, bv_fr12, bv_fr13]) hW
