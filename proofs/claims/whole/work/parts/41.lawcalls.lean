/-! ===== the law's own methods: a call of the vault, its throws caught ===== -/
theorem bv_Pset {D : va_G} {cl : List vw_C} {ws : va_W} {k a : Nat} {e e' : va_E} {H : Heap} (hP : va_P D cl (ws.set k (a, e)) H) (h : va_at D cl (a, e) H → va_at D cl (a, e') H) : va_P D cl (ws.set k (a, e')) H := by
  intro i q hq
  by_cases hi : i = k
  · subst hi
    have hl : i < ws.length := by
      have := (List.getElem?_eq_some_iff.mp hq).1
      simpa using this
    rw [List.getElem?_set_self hl] at hq
    cases hq
    exact h (hP i _ (by rw [List.getElem?_set_self hl]))
  · rw [List.getElem?_set_ne (Ne.symm hi)] at hq
    exact hP i q (by rw [List.getElem?_set_ne (Ne.symm hi)]; exact hq)
theorem bv_last {p : Program} {l : Launch} {e : Env} {R : Room} {s : State} {m : MethodId} {args : Array Value} {below : List Frame} {meth : Method} {c : Code} {H : Heap} {locs : List Loc} {cells slots : Nat} {Q : State → Prop} {cc : ByteArray} {pc : Nat} {ls : Array Slot} {rest : List Value} {G : bv_G} {S M : bv_X} {z : bv_Z} (hx : p.tables.exec = Jvm.exec) (hb : c.code = cc) (hK : bv_K G s) (hP : bv_H G S M z H) (hS : va_S (bv_A G) s.heap H locs) {x : Int64} (hdg : decode cc pc = .ok (.lastore, 1))
    (kk : ∀ (H1 : Heap) (locs1 : List Loc), bv_H G S M (z.1, x) H1 → va_S (bv_A G) s.heap H1 locs1 → W p l e R s m args below meth c H1 locs1 cells slots Q (F0 m (pc + 1) ls rest)) : W p l e R s m args below meth c H locs cells slots Q (F0 m pc ls (.long x :: .int 0 :: .ref (bv_a G 62) :: rest)) := by
  refine va_last hx hb hK.2 hP (bv_dd hK.1 S M z) hS 62 3 (bv_c62 G _ _ _) rfl (show vp_in (0 : Int32) 1 by unfold vp_in; decide) hdg (fun H1 l1 hP1 hD1 hS1 => kk H1 l1 ?_ hS1)
  show va_P _ _ _ _
  rw [← bv_sout G S M z x]
  refine bv_Pset hP1 (fun h => ?_)
  show H1[bv_a G 62]? = some (vp_cell _ _)
  have h : H1[bv_a G 62]? = some (vp_cell _ _) := h
  rw [h, vp_cell_l, vp_cell_l]
  exact congrArg some (bv_arrV (fun j hj => by
    obtain rfl : j = 0 := by omega
    rfl))
theorem sq_pass {X : bv_X} {p0 : Int32} (h : ¬ (sp_pass X p0).1 = 0) : (sp_pass X p0).2.2 = X := by
  revert h
  unfold sp_pass
  (repeat' split) <;> intro h <;> first | rfl | exact absurd rfl h
set_option maxHeartbeats 1000000 in
set_option maxRecDepth 100000 in
theorem c_L_pass (l : Launch) (hlt : l.stackTraces = false) (G : bv_G) (S M : bv_X) (z : bv_Z) (n : Nat) (p0 : Int32) (hn : n ≤ 1000) (hI : bv_I n S) : bv_M l yL_pass wsL_pass ({ frames := 8, cells := 2, slots := 12, locals := 125 }) [.ref (bv_a G 0), .int p0, .ref (bv_a G 62)] G (bv_vw S) M z ((sp_pass S p0).1) (bv_vw (sp_pass S p0).2.2) M (z.1, if (sp_pass S p0).1 = 0 then (sp_pass S p0).2.1.toInt64 else z.2) := by
  refine va_MetW (cc := cL_pass) (maxL := 4) (ret := some .int) (hh := [(0, 9, 12, 13), (0, 9, 15, 15)]) (by decide) rfl ?_
  intro p e s m args below meth c s₁ B hml hv
  obtain ⟨rfl, hz, hP, hK, hE⟩ := hv
  have hx := B.exec
  have hb := B.bytes
  have hr := B.returns
  have hts := atoms_spec (ws := wsL_pass) B.pre
  have htab := vx_table (x := yL_pass) B (hts _ List.mem_cons_self)
  have hown : s.vm.findClass RL = some m.cls := findClass_of_methodNamed B.named
  have hlocks := B.notSynchronized
  have hS : va_S (bv_A G) s.heap s.heap [] := va_S.rf
  have hl := lv_entry ([.ref (bv_a G 0), .int p0, .ref (bv_a G 62)]) (n := 4) (Nat.le_of_ble_eq_true rfl)
  rw [lg_entry_eq]
  generalize (lg_sl ([.ref (bv_a G 0), .int p0, .ref (bv_a G 62)]) ++ List.replicate (4 - (lg_sl ([.ref (bv_a G 0), .int p0, .ref (bv_a G 62)])).length) Slot.unset).toArray = ls at hl ⊢
  have hl : lv_has ls 4 [(0, .ref (bv_a G 0)), (1, .int p0), (2, .ref (bv_a G 62))] := hl
  refine lv_aload_n hx hb dL_pass_0 rfl (lv_at hl 2 rfl) ?_
  refine lv_iconst (v := 0) hx hb dL_pass_1 (by decide) ?_
  refine lv_aload_n hx hb dL_pass_2 rfl (lv_at hl 0 rfl) ?_
  refine lv_iload_n hx hb dL_pass_3 rfl (lv_at hl 1 rfl) ?_
  refine bv_cxi (vx_runV (As := [.int p0]) (rest := [.int 0, .ref (bv_a G 62)]) ⟨hx, hb, hml, hown, hts⟩ (c_X2_pass l hlt G S M z n p0 hn hI) (cwV 1 hts gL_pass_X2_pass rfl rfl rfl (by decide +kernel) ⟨Nat.le_of_ble_eq_true rfl, Nat.le_of_ble_eq_true rfl⟩) (bv_preV hz hP hK hE hS (ci := 2) (bv_c0 G _ _ _) rfl rfl) rfl rfl hl.1 rfl (lv_room (Nat.le_of_ble_eq_true rfl)) dL_pass_4 ⟨Nat.le_of_ble_eq_true rfl, Nat.le_of_ble_eq_true rfl⟩) hS ?_ (fun H locs k_1 hP hS => ?_)
  · intro E ce q9 H1 locs1 hX hP hS h1 h2 h3
    rcases hX with ⟨rfl, hk⟩ | ⟨rfl, hk⟩
    · refine vx_catch hown [] _ _ htab (fun _ h => absurd h List.not_mem_nil) rfl (by decide) (hts (.classLink RL 13 "java/lang/IllegalArgumentException") (by decide +kernel)) (va_Nw.use rfl (hE.1 (.castable "java/lang/IllegalArgumentException" "java/lang/IllegalArgumentException") (by decide +kernel))) h1 h2 h3 ?_
      refine lv_astore_n (lv' := [(3, .ref q9), (0, .ref (bv_a G 0)), (1, .int p0), (2, .ref (bv_a G 62))]) hx hb dL_pass_12 rfl hl (by decide) rfl (fun ls hl => ?_)
      refine lv_iconst (v := 1) hx hb dL_pass_13 (by decide) ?_
      have hP : bv_H G (bv_vw (sp_pass S p0).2.2) M (z.1, if (sp_pass S p0).1 = 0 then (sp_pass S p0).2.1.toInt64 else z.2) H1 := by
        rw [sq_pass (by rw [hk]; decide), if_neg (by rw [hk]; decide)]; exact hP
      exact bv_iret hx hb hr hlocks hS (Nat.le_of_ble_eq_true rfl) (Nat.le_of_ble_eq_true rfl) dL_pass_14 hk.symm hP
    · refine vx_catch hown [_] _ _ htab (fun y9 h9 => by cases List.mem_singleton.mp h9; exact Or.inr ⟨by decide, _, hts (.classLink RL 13 "java/lang/IllegalArgumentException") (by decide +kernel), hE.2.2.1 ("java/lang/IllegalStateException", "java/lang/IllegalArgumentException") (by decide +kernel)⟩) rfl (by decide) (hts (.classLink RL 15 "java/lang/IllegalStateException") (by decide +kernel)) (va_Nw.use rfl (hE.1 (.castable "java/lang/IllegalStateException" "java/lang/IllegalStateException") (by decide +kernel))) h1 h2 h3 ?_
      refine lv_astore_n (lv' := [(3, .ref q9), (0, .ref (bv_a G 0)), (1, .int p0), (2, .ref (bv_a G 62))]) hx hb dL_pass_15 rfl hl (by decide) rfl (fun ls hl => ?_)
      refine lv_iconst (v := 2) hx hb dL_pass_16 (by decide) ?_
      have hP : bv_H G (bv_vw (sp_pass S p0).2.2) M (z.1, if (sp_pass S p0).1 = 0 then (sp_pass S p0).2.1.toInt64 else z.2) H1 := by
        rw [sq_pass (by rw [hk]; decide), if_neg (by rw [hk]; decide)]; exact hP
      exact bv_iret hx hb hr hlocks hS (Nat.le_of_ble_eq_true rfl) (Nat.le_of_ble_eq_true rfl) dL_pass_17 hk.symm hP
  · refine lv_i2l hx hb dL_pass_7 rfl ?_
    refine bv_last hx hb hK hP hS dL_pass_8 (fun H locs hP hS => ?_)
    refine lv_goto (tgt := 18) hx hb dL_pass_9 (by decide) ?_
    refine lv_iconst (v := 0) hx hb dL_pass_18 (by decide) ?_
    have hP : bv_H G (bv_vw (sp_pass S p0).2.2) M (z.1, if (sp_pass S p0).1 = 0 then (sp_pass S p0).2.1.toInt64 else z.2) H := by
      rw [if_pos k_1]; exact hP
    exact bv_iret hx hb hr hlocks hS (Nat.le_of_ble_eq_true rfl) (Nat.le_of_ble_eq_true rfl) dL_pass_19 k_1.symm hP
theorem sq_rent {X : bv_X} {p0 p1 p2 : Int32} (h : ¬ (sp_rent X p0 p1 p2).1 = 0) : (sp_rent X p0 p1 p2).2.2 = X := by
  revert h
  unfold sp_rent
  (repeat' split) <;> intro h <;> first | rfl | exact absurd rfl h
set_option maxHeartbeats 1000000 in
set_option maxRecDepth 100000 in
theorem c_L_rent (l : Launch) (hlt : l.stackTraces = false) (G : bv_G) (S M : bv_X) (z : bv_Z) (n : Nat) (p0 p1 p2 : Int32) (hn : n ≤ 1000) (hI : bv_I n S) : bv_M l yL_rent wsL_rent ({ frames := 9, cells := 4, slots := 24, locals := 149 }) [.ref (bv_a G 0), .int p0, .int p1, .int p2, .ref (bv_a G 62)] G (bv_vw S) M z ((sp_rent S p0 p1 p2).1) (bv_vw (sp_rent S p0 p1 p2).2.2) M (z.1, if (sp_rent S p0 p1 p2).1 = 0 then (sp_rent S p0 p1 p2).2.1.toInt64 else z.2) := by
  refine va_MetW (cc := cL_rent) (maxL := 6) (ret := some .int) (hh := [(0, 12, 15, 13), (0, 12, 19, 15)]) (by decide) rfl ?_
  intro p e s m args below meth c s₁ B hml hv
  obtain ⟨rfl, hz, hP, hK, hE⟩ := hv
  have hx := B.exec
  have hb := B.bytes
  have hr := B.returns
  have hts := atoms_spec (ws := wsL_rent) B.pre
  have htab := vx_table (x := yL_rent) B (hts _ List.mem_cons_self)
  have hown : s.vm.findClass RL = some m.cls := findClass_of_methodNamed B.named
  have hlocks := B.notSynchronized
  have hS : va_S (bv_A G) s.heap s.heap [] := va_S.rf
  have hl := lv_entry ([.ref (bv_a G 0), .int p0, .int p1, .int p2, .ref (bv_a G 62)]) (n := 6) (Nat.le_of_ble_eq_true rfl)
  rw [lg_entry_eq]
  generalize (lg_sl ([.ref (bv_a G 0), .int p0, .int p1, .int p2, .ref (bv_a G 62)]) ++ List.replicate (6 - (lg_sl ([.ref (bv_a G 0), .int p0, .int p1, .int p2, .ref (bv_a G 62)])).length) Slot.unset).toArray = ls at hl ⊢
  have hl : lv_has ls 6 [(0, .ref (bv_a G 0)), (1, .int p0), (2, .int p1), (3, .int p2), (4, .ref (bv_a G 62))] := hl
  refine lv_aload hx hb dL_rent_0 (lv_at hl 4 rfl) ?_
  refine lv_iconst (v := 0) hx hb dL_rent_2 (by decide) ?_
  refine lv_aload_n hx hb dL_rent_3 rfl (lv_at hl 0 rfl) ?_
  refine lv_iload_n hx hb dL_rent_4 rfl (lv_at hl 1 rfl) ?_
  refine lv_iload_n hx hb dL_rent_5 rfl (lv_at hl 2 rfl) ?_
  refine lv_iload_n hx hb dL_rent_6 rfl (lv_at hl 3 rfl) ?_
  refine bv_cxi (vx_runV (As := [.int p0, .int p1, .int p2]) (rest := [.int 0, .ref (bv_a G 62)]) ⟨hx, hb, hml, hown, hts⟩ (c_X2_rent l hlt G S M z n p0 p1 p2 hn hI) (cwV 3 hts gL_rent_X2_rent rfl rfl rfl (by decide +kernel) ⟨Nat.le_of_ble_eq_true rfl, Nat.le_of_ble_eq_true rfl⟩) (bv_preV hz hP hK hE hS (ci := 2) (bv_c0 G _ _ _) rfl rfl) rfl rfl hl.1 rfl (lv_room (Nat.le_of_ble_eq_true rfl)) dL_rent_7 ⟨Nat.le_of_ble_eq_true rfl, Nat.le_of_ble_eq_true rfl⟩) hS ?_ (fun H locs k_1 hP hS => ?_)
  · intro E ce q9 H1 locs1 hX hP hS h1 h2 h3
    rcases hX with ⟨rfl, hk⟩ | ⟨rfl, hk⟩
    · refine vx_catch hown [] _ _ htab (fun _ h => absurd h List.not_mem_nil) rfl (by decide) (hts (.classLink RL 13 "java/lang/IllegalArgumentException") (by decide +kernel)) (va_Nw.use rfl (hE.1 (.castable "java/lang/IllegalArgumentException" "java/lang/IllegalArgumentException") (by decide +kernel))) h1 h2 h3 ?_
      refine lv_astore (lv' := [(5, .ref q9), (0, .ref (bv_a G 0)), (1, .int p0), (2, .int p1), (3, .int p2), (4, .ref (bv_a G 62))]) hx hb dL_rent_15 hl (by decide) rfl (fun ls hl => ?_)
      refine lv_iconst (v := 1) hx hb dL_rent_17 (by decide) ?_
      have hP : bv_H G (bv_vw (sp_rent S p0 p1 p2).2.2) M (z.1, if (sp_rent S p0 p1 p2).1 = 0 then (sp_rent S p0 p1 p2).2.1.toInt64 else z.2) H1 := by
        rw [sq_rent (by rw [hk]; decide), if_neg (by rw [hk]; decide)]; exact hP
      exact bv_iret hx hb hr hlocks hS (Nat.le_of_ble_eq_true rfl) (Nat.le_of_ble_eq_true rfl) dL_rent_18 hk.symm hP
    · refine vx_catch hown [_] _ _ htab (fun y9 h9 => by cases List.mem_singleton.mp h9; exact Or.inr ⟨by decide, _, hts (.classLink RL 13 "java/lang/IllegalArgumentException") (by decide +kernel), hE.2.2.1 ("java/lang/IllegalStateException", "java/lang/IllegalArgumentException") (by decide +kernel)⟩) rfl (by decide) (hts (.classLink RL 15 "java/lang/IllegalStateException") (by decide +kernel)) (va_Nw.use rfl (hE.1 (.castable "java/lang/IllegalStateException" "java/lang/IllegalStateException") (by decide +kernel))) h1 h2 h3 ?_
      refine lv_astore (lv' := [(5, .ref q9), (0, .ref (bv_a G 0)), (1, .int p0), (2, .int p1), (3, .int p2), (4, .ref (bv_a G 62))]) hx hb dL_rent_19 hl (by decide) rfl (fun ls hl => ?_)
      refine lv_iconst (v := 2) hx hb dL_rent_21 (by decide) ?_
      have hP : bv_H G (bv_vw (sp_rent S p0 p1 p2).2.2) M (z.1, if (sp_rent S p0 p1 p2).1 = 0 then (sp_rent S p0 p1 p2).2.1.toInt64 else z.2) H1 := by
        rw [sq_rent (by rw [hk]; decide), if_neg (by rw [hk]; decide)]; exact hP
      exact bv_iret hx hb hr hlocks hS (Nat.le_of_ble_eq_true rfl) (Nat.le_of_ble_eq_true rfl) dL_rent_22 hk.symm hP
  · refine lv_i2l hx hb dL_rent_10 rfl ?_
    refine bv_last hx hb hK hP hS dL_rent_11 (fun H locs hP hS => ?_)
    refine lv_goto (tgt := 23) hx hb dL_rent_12 (by decide) ?_
    refine lv_iconst (v := 0) hx hb dL_rent_23 (by decide) ?_
    have hP : bv_H G (bv_vw (sp_rent S p0 p1 p2).2.2) M (z.1, if (sp_rent S p0 p1 p2).1 = 0 then (sp_rent S p0 p1 p2).2.1.toInt64 else z.2) H := by
      rw [if_pos k_1]; exact hP
    exact bv_iret hx hb hr hlocks hS (Nat.le_of_ble_eq_true rfl) (Nat.le_of_ble_eq_true rfl) dL_rent_24 k_1.symm hP
theorem sq_extend {X : bv_X} {p0 p1 : Int32} (h : ¬ (sp_extend X p0 p1).1 = 0) : (sp_extend X p0 p1).2.2 = X := by
  revert h
  unfold sp_extend
  (repeat' split) <;> intro h <;> first | rfl | exact absurd rfl h
set_option maxHeartbeats 1000000 in
set_option maxRecDepth 100000 in
theorem c_L_extend (l : Launch) (hlt : l.stackTraces = false) (G : bv_G) (S M : bv_X) (z : bv_Z) (n : Nat) (p0 p1 : Int32) (hn : n ≤ 1000) (hI : bv_I n S) : bv_M l yL_extend wsL_extend ({ frames := 9, cells := 3, slots := 18, locals := 148 }) [.ref (bv_a G 0), .int p0, .int p1, .ref (bv_a G 62)] G (bv_vw S) M z ((sp_extend S p0 p1).1) (bv_vw (sp_extend S p0 p1).2.2) M (z.1, if (sp_extend S p0 p1).1 = 0 then (sp_extend S p0 p1).2.1.toInt64 else z.2) := by
  refine va_MetW (cc := cL_extend) (maxL := 5) (ret := some .int) (hh := [(0, 10, 13, 13), (0, 10, 17, 15)]) (by decide) rfl ?_
  intro p e s m args below meth c s₁ B hml hv
  obtain ⟨rfl, hz, hP, hK, hE⟩ := hv
  have hx := B.exec
  have hb := B.bytes
  have hr := B.returns
  have hts := atoms_spec (ws := wsL_extend) B.pre
  have htab := vx_table (x := yL_extend) B (hts _ List.mem_cons_self)
  have hown : s.vm.findClass RL = some m.cls := findClass_of_methodNamed B.named
  have hlocks := B.notSynchronized
  have hS : va_S (bv_A G) s.heap s.heap [] := va_S.rf
  have hl := lv_entry ([.ref (bv_a G 0), .int p0, .int p1, .ref (bv_a G 62)]) (n := 5) (Nat.le_of_ble_eq_true rfl)
  rw [lg_entry_eq]
  generalize (lg_sl ([.ref (bv_a G 0), .int p0, .int p1, .ref (bv_a G 62)]) ++ List.replicate (5 - (lg_sl ([.ref (bv_a G 0), .int p0, .int p1, .ref (bv_a G 62)])).length) Slot.unset).toArray = ls at hl ⊢
  have hl : lv_has ls 5 [(0, .ref (bv_a G 0)), (1, .int p0), (2, .int p1), (3, .ref (bv_a G 62))] := hl
  refine lv_aload_n hx hb dL_extend_0 rfl (lv_at hl 3 rfl) ?_
  refine lv_iconst (v := 0) hx hb dL_extend_1 (by decide) ?_
  refine lv_aload_n hx hb dL_extend_2 rfl (lv_at hl 0 rfl) ?_
  refine lv_iload_n hx hb dL_extend_3 rfl (lv_at hl 1 rfl) ?_
  refine lv_iload_n hx hb dL_extend_4 rfl (lv_at hl 2 rfl) ?_
  refine bv_cxi (vx_runV (As := [.int p0, .int p1]) (rest := [.int 0, .ref (bv_a G 62)]) ⟨hx, hb, hml, hown, hts⟩ (c_X2_extend l hlt G S M z n p0 p1 hn hI) (cwV 2 hts gL_extend_X2_extend rfl rfl rfl (by decide +kernel) ⟨Nat.le_of_ble_eq_true rfl, Nat.le_of_ble_eq_true rfl⟩) (bv_preV hz hP hK hE hS (ci := 2) (bv_c0 G _ _ _) rfl rfl) rfl rfl hl.1 rfl (lv_room (Nat.le_of_ble_eq_true rfl)) dL_extend_5 ⟨Nat.le_of_ble_eq_true rfl, Nat.le_of_ble_eq_true rfl⟩) hS ?_ (fun H locs k_1 hP hS => ?_)
  · intro E ce q9 H1 locs1 hX hP hS h1 h2 h3
    rcases hX with ⟨rfl, hk⟩ | ⟨rfl, hk⟩
    · refine vx_catch hown [] _ _ htab (fun _ h => absurd h List.not_mem_nil) rfl (by decide) (hts (.classLink RL 13 "java/lang/IllegalArgumentException") (by decide +kernel)) (va_Nw.use rfl (hE.1 (.castable "java/lang/IllegalArgumentException" "java/lang/IllegalArgumentException") (by decide +kernel))) h1 h2 h3 ?_
      refine lv_astore (lv' := [(4, .ref q9), (0, .ref (bv_a G 0)), (1, .int p0), (2, .int p1), (3, .ref (bv_a G 62))]) hx hb dL_extend_13 hl (by decide) rfl (fun ls hl => ?_)
      refine lv_iconst (v := 1) hx hb dL_extend_15 (by decide) ?_
      have hP : bv_H G (bv_vw (sp_extend S p0 p1).2.2) M (z.1, if (sp_extend S p0 p1).1 = 0 then (sp_extend S p0 p1).2.1.toInt64 else z.2) H1 := by
        rw [sq_extend (by rw [hk]; decide), if_neg (by rw [hk]; decide)]; exact hP
      exact bv_iret hx hb hr hlocks hS (Nat.le_of_ble_eq_true rfl) (Nat.le_of_ble_eq_true rfl) dL_extend_16 hk.symm hP
    · refine vx_catch hown [_] _ _ htab (fun y9 h9 => by cases List.mem_singleton.mp h9; exact Or.inr ⟨by decide, _, hts (.classLink RL 13 "java/lang/IllegalArgumentException") (by decide +kernel), hE.2.2.1 ("java/lang/IllegalStateException", "java/lang/IllegalArgumentException") (by decide +kernel)⟩) rfl (by decide) (hts (.classLink RL 15 "java/lang/IllegalStateException") (by decide +kernel)) (va_Nw.use rfl (hE.1 (.castable "java/lang/IllegalStateException" "java/lang/IllegalStateException") (by decide +kernel))) h1 h2 h3 ?_
      refine lv_astore (lv' := [(4, .ref q9), (0, .ref (bv_a G 0)), (1, .int p0), (2, .int p1), (3, .ref (bv_a G 62))]) hx hb dL_extend_17 hl (by decide) rfl (fun ls hl => ?_)
      refine lv_iconst (v := 2) hx hb dL_extend_19 (by decide) ?_
      have hP : bv_H G (bv_vw (sp_extend S p0 p1).2.2) M (z.1, if (sp_extend S p0 p1).1 = 0 then (sp_extend S p0 p1).2.1.toInt64 else z.2) H1 := by
        rw [sq_extend (by rw [hk]; decide), if_neg (by rw [hk]; decide)]; exact hP
      exact bv_iret hx hb hr hlocks hS (Nat.le_of_ble_eq_true rfl) (Nat.le_of_ble_eq_true rfl) dL_extend_20 hk.symm hP
  · refine lv_i2l hx hb dL_extend_8 rfl ?_
    refine bv_last hx hb hK hP hS dL_extend_9 (fun H locs hP hS => ?_)
    refine lv_goto (tgt := 21) hx hb dL_extend_10 (by decide) ?_
    refine lv_iconst (v := 0) hx hb dL_extend_21 (by decide) ?_
    have hP : bv_H G (bv_vw (sp_extend S p0 p1).2.2) M (z.1, if (sp_extend S p0 p1).1 = 0 then (sp_extend S p0 p1).2.1.toInt64 else z.2) H := by
      rw [if_pos k_1]; exact hP
    exact bv_iret hx hb hr hlocks hS (Nat.le_of_ble_eq_true rfl) (Nat.le_of_ble_eq_true rfl) dL_extend_22 k_1.symm hP
theorem sq_giveBack {X : bv_X} {p0 p1 : Int32} (h : ¬ (sp_giveBack X p0 p1).1 = 0) : (sp_giveBack X p0 p1).2.2 = X := by
  revert h
  unfold sp_giveBack
  (repeat' split) <;> intro h <;> first | rfl | exact absurd rfl h
set_option maxHeartbeats 1000000 in
set_option maxRecDepth 100000 in
theorem c_L_giveBack (l : Launch) (hlt : l.stackTraces = false) (G : bv_G) (S M : bv_X) (z : bv_Z) (n : Nat) (p0 p1 : Int32) (hn : n ≤ 1000) (hI : bv_I n S) : bv_M l yL_giveBack wsL_giveBack ({ frames := 9, cells := 4, slots := 24, locals := 149 }) [.ref (bv_a G 0), .int p0, .int p1, .ref (bv_a G 62)] G (bv_vw S) M z ((sp_giveBack S p0 p1).1) (bv_vw (sp_giveBack S p0 p1).2.2) M (z.1, if (sp_giveBack S p0 p1).1 = 0 then (sp_giveBack S p0 p1).2.1.toInt64 else z.2) := by
  refine va_MetW (cc := cL_giveBack) (maxL := 5) (ret := some .int) (hh := [(0, 10, 13, 13), (0, 10, 17, 15)]) (by decide) rfl ?_
  intro p e s m args below meth c s₁ B hml hv
  obtain ⟨rfl, hz, hP, hK, hE⟩ := hv
  have hx := B.exec
  have hb := B.bytes
  have hr := B.returns
  have hts := atoms_spec (ws := wsL_giveBack) B.pre
  have htab := vx_table (x := yL_giveBack) B (hts _ List.mem_cons_self)
  have hown : s.vm.findClass RL = some m.cls := findClass_of_methodNamed B.named
  have hlocks := B.notSynchronized
  have hS : va_S (bv_A G) s.heap s.heap [] := va_S.rf
  have hl := lv_entry ([.ref (bv_a G 0), .int p0, .int p1, .ref (bv_a G 62)]) (n := 5) (Nat.le_of_ble_eq_true rfl)
  rw [lg_entry_eq]
  generalize (lg_sl ([.ref (bv_a G 0), .int p0, .int p1, .ref (bv_a G 62)]) ++ List.replicate (5 - (lg_sl ([.ref (bv_a G 0), .int p0, .int p1, .ref (bv_a G 62)])).length) Slot.unset).toArray = ls at hl ⊢
  have hl : lv_has ls 5 [(0, .ref (bv_a G 0)), (1, .int p0), (2, .int p1), (3, .ref (bv_a G 62))] := hl
  refine lv_aload_n hx hb dL_giveBack_0 rfl (lv_at hl 3 rfl) ?_
  refine lv_iconst (v := 0) hx hb dL_giveBack_1 (by decide) ?_
  refine lv_aload_n hx hb dL_giveBack_2 rfl (lv_at hl 0 rfl) ?_
  refine lv_iload_n hx hb dL_giveBack_3 rfl (lv_at hl 1 rfl) ?_
  refine lv_iload_n hx hb dL_giveBack_4 rfl (lv_at hl 2 rfl) ?_
  refine bv_cxi (vx_runV (As := [.int p0, .int p1]) (rest := [.int 0, .ref (bv_a G 62)]) ⟨hx, hb, hml, hown, hts⟩ (c_X2_giveBack l hlt G S M z n p0 p1 hn hI) (cwV 2 hts gL_giveBack_X2_giveBack rfl rfl rfl (by decide +kernel) ⟨Nat.le_of_ble_eq_true rfl, Nat.le_of_ble_eq_true rfl⟩) (bv_preV hz hP hK hE hS (ci := 2) (bv_c0 G _ _ _) rfl rfl) rfl rfl hl.1 rfl (lv_room (Nat.le_of_ble_eq_true rfl)) dL_giveBack_5 ⟨Nat.le_of_ble_eq_true rfl, Nat.le_of_ble_eq_true rfl⟩) hS ?_ (fun H locs k_1 hP hS => ?_)
  · intro E ce q9 H1 locs1 hX hP hS h1 h2 h3
    rcases hX with ⟨rfl, hk⟩ | ⟨rfl, hk⟩
    · refine vx_catch hown [] _ _ htab (fun _ h => absurd h List.not_mem_nil) rfl (by decide) (hts (.classLink RL 13 "java/lang/IllegalArgumentException") (by decide +kernel)) (va_Nw.use rfl (hE.1 (.castable "java/lang/IllegalArgumentException" "java/lang/IllegalArgumentException") (by decide +kernel))) h1 h2 h3 ?_
      refine lv_astore (lv' := [(4, .ref q9), (0, .ref (bv_a G 0)), (1, .int p0), (2, .int p1), (3, .ref (bv_a G 62))]) hx hb dL_giveBack_13 hl (by decide) rfl (fun ls hl => ?_)
      refine lv_iconst (v := 1) hx hb dL_giveBack_15 (by decide) ?_
      have hP : bv_H G (bv_vw (sp_giveBack S p0 p1).2.2) M (z.1, if (sp_giveBack S p0 p1).1 = 0 then (sp_giveBack S p0 p1).2.1.toInt64 else z.2) H1 := by
        rw [sq_giveBack (by rw [hk]; decide), if_neg (by rw [hk]; decide)]; exact hP
      exact bv_iret hx hb hr hlocks hS (Nat.le_of_ble_eq_true rfl) (Nat.le_of_ble_eq_true rfl) dL_giveBack_16 hk.symm hP
    · refine vx_catch hown [_] _ _ htab (fun y9 h9 => by cases List.mem_singleton.mp h9; exact Or.inr ⟨by decide, _, hts (.classLink RL 13 "java/lang/IllegalArgumentException") (by decide +kernel), hE.2.2.1 ("java/lang/IllegalStateException", "java/lang/IllegalArgumentException") (by decide +kernel)⟩) rfl (by decide) (hts (.classLink RL 15 "java/lang/IllegalStateException") (by decide +kernel)) (va_Nw.use rfl (hE.1 (.castable "java/lang/IllegalStateException" "java/lang/IllegalStateException") (by decide +kernel))) h1 h2 h3 ?_
      refine lv_astore (lv' := [(4, .ref q9), (0, .ref (bv_a G 0)), (1, .int p0), (2, .int p1), (3, .ref (bv_a G 62))]) hx hb dL_giveBack_17 hl (by decide) rfl (fun ls hl => ?_)
      refine lv_iconst (v := 2) hx hb dL_giveBack_19 (by decide) ?_
      have hP : bv_H G (bv_vw (sp_giveBack S p0 p1).2.2) M (z.1, if (sp_giveBack S p0 p1).1 = 0 then (sp_giveBack S p0 p1).2.1.toInt64 else z.2) H1 := by
        rw [sq_giveBack (by rw [hk]; decide), if_neg (by rw [hk]; decide)]; exact hP
      exact bv_iret hx hb hr hlocks hS (Nat.le_of_ble_eq_true rfl) (Nat.le_of_ble_eq_true rfl) dL_giveBack_20 hk.symm hP
  · refine lv_i2l hx hb dL_giveBack_8 rfl ?_
    refine bv_last hx hb hK hP hS dL_giveBack_9 (fun H locs hP hS => ?_)
    refine lv_goto (tgt := 21) hx hb dL_giveBack_10 (by decide) ?_
    refine lv_iconst (v := 0) hx hb dL_giveBack_21 (by decide) ?_
    have hP : bv_H G (bv_vw (sp_giveBack S p0 p1).2.2) M (z.1, if (sp_giveBack S p0 p1).1 = 0 then (sp_giveBack S p0 p1).2.1.toInt64 else z.2) H := by
      rw [if_pos k_1]; exact hP
    exact bv_iret hx hb hr hlocks hS (Nat.le_of_ble_eq_true rfl) (Nat.le_of_ble_eq_true rfl) dL_giveBack_22 k_1.symm hP
theorem sq_drill {X : bv_X} {p0 p1 p2 : Int32} (h : ¬ (sp_drill X p0 p1 p2).1 = 0) : (sp_drill X p0 p1 p2).2.2 = X := by
  revert h
  unfold sp_drill
  (repeat' split) <;> intro h <;> first | rfl | exact absurd rfl h
set_option maxHeartbeats 1000000 in
set_option maxRecDepth 100000 in
theorem c_L_drill (l : Launch) (hlt : l.stackTraces = false) (G : bv_G) (S M : bv_X) (z : bv_Z) (n : Nat) (p0 p1 p2 : Int32) (hn : n ≤ 1000) (hI : bv_I n S) : bv_M l yL_drill wsL_drill ({ frames := 9, cells := 5, slots := 30, locals := 149 }) [.ref (bv_a G 0), .int p0, .int p1, .int p2, .ref (bv_a G 62)] G (bv_vw S) M z ((sp_drill S p0 p1 p2).1) (bv_vw (sp_drill S p0 p1 p2).2.2) M (z.1, if (sp_drill S p0 p1 p2).1 = 0 then (sp_drill S p0 p1 p2).2.1.toInt64 else z.2) := by
  refine va_MetW (cc := cL_drill) (maxL := 6) (ret := some .int) (hh := [(0, 12, 15, 13), (0, 12, 19, 15)]) (by decide) rfl ?_
  intro p e s m args below meth c s₁ B hml hv
  obtain ⟨rfl, hz, hP, hK, hE⟩ := hv
  have hx := B.exec
  have hb := B.bytes
  have hr := B.returns
  have hts := atoms_spec (ws := wsL_drill) B.pre
  have htab := vx_table (x := yL_drill) B (hts _ List.mem_cons_self)
  have hown : s.vm.findClass RL = some m.cls := findClass_of_methodNamed B.named
  have hlocks := B.notSynchronized
  have hS : va_S (bv_A G) s.heap s.heap [] := va_S.rf
  have hl := lv_entry ([.ref (bv_a G 0), .int p0, .int p1, .int p2, .ref (bv_a G 62)]) (n := 6) (Nat.le_of_ble_eq_true rfl)
  rw [lg_entry_eq]
  generalize (lg_sl ([.ref (bv_a G 0), .int p0, .int p1, .int p2, .ref (bv_a G 62)]) ++ List.replicate (6 - (lg_sl ([.ref (bv_a G 0), .int p0, .int p1, .int p2, .ref (bv_a G 62)])).length) Slot.unset).toArray = ls at hl ⊢
  have hl : lv_has ls 6 [(0, .ref (bv_a G 0)), (1, .int p0), (2, .int p1), (3, .int p2), (4, .ref (bv_a G 62))] := hl
  refine lv_aload hx hb dL_drill_0 (lv_at hl 4 rfl) ?_
  refine lv_iconst (v := 0) hx hb dL_drill_2 (by decide) ?_
  refine lv_aload_n hx hb dL_drill_3 rfl (lv_at hl 0 rfl) ?_
  refine lv_iload_n hx hb dL_drill_4 rfl (lv_at hl 1 rfl) ?_
  refine lv_iload_n hx hb dL_drill_5 rfl (lv_at hl 2 rfl) ?_
  refine lv_iload_n hx hb dL_drill_6 rfl (lv_at hl 3 rfl) ?_
  refine bv_cxi (vx_runV (As := [.int p0, .int p1, .int p2]) (rest := [.int 0, .ref (bv_a G 62)]) ⟨hx, hb, hml, hown, hts⟩ (c_X2_drill l hlt G S M z n p0 p1 p2 hn hI) (cwV 3 hts gL_drill_X2_drill rfl rfl rfl (by decide +kernel) ⟨Nat.le_of_ble_eq_true rfl, Nat.le_of_ble_eq_true rfl⟩) (bv_preV hz hP hK hE hS (ci := 2) (bv_c0 G _ _ _) rfl rfl) rfl rfl hl.1 rfl (lv_room (Nat.le_of_ble_eq_true rfl)) dL_drill_7 ⟨Nat.le_of_ble_eq_true rfl, Nat.le_of_ble_eq_true rfl⟩) hS ?_ (fun H locs k_1 hP hS => ?_)
  · intro E ce q9 H1 locs1 hX hP hS h1 h2 h3
    rcases hX with ⟨rfl, hk⟩ | ⟨rfl, hk⟩
    · refine vx_catch hown [] _ _ htab (fun _ h => absurd h List.not_mem_nil) rfl (by decide) (hts (.classLink RL 13 "java/lang/IllegalArgumentException") (by decide +kernel)) (va_Nw.use rfl (hE.1 (.castable "java/lang/IllegalArgumentException" "java/lang/IllegalArgumentException") (by decide +kernel))) h1 h2 h3 ?_
      refine lv_astore (lv' := [(5, .ref q9), (0, .ref (bv_a G 0)), (1, .int p0), (2, .int p1), (3, .int p2), (4, .ref (bv_a G 62))]) hx hb dL_drill_15 hl (by decide) rfl (fun ls hl => ?_)
      refine lv_iconst (v := 1) hx hb dL_drill_17 (by decide) ?_
      have hP : bv_H G (bv_vw (sp_drill S p0 p1 p2).2.2) M (z.1, if (sp_drill S p0 p1 p2).1 = 0 then (sp_drill S p0 p1 p2).2.1.toInt64 else z.2) H1 := by
        rw [sq_drill (by rw [hk]; decide), if_neg (by rw [hk]; decide)]; exact hP
      exact bv_iret hx hb hr hlocks hS (Nat.le_of_ble_eq_true rfl) (Nat.le_of_ble_eq_true rfl) dL_drill_18 hk.symm hP
    · refine vx_catch hown [_] _ _ htab (fun y9 h9 => by cases List.mem_singleton.mp h9; exact Or.inr ⟨by decide, _, hts (.classLink RL 13 "java/lang/IllegalArgumentException") (by decide +kernel), hE.2.2.1 ("java/lang/IllegalStateException", "java/lang/IllegalArgumentException") (by decide +kernel)⟩) rfl (by decide) (hts (.classLink RL 15 "java/lang/IllegalStateException") (by decide +kernel)) (va_Nw.use rfl (hE.1 (.castable "java/lang/IllegalStateException" "java/lang/IllegalStateException") (by decide +kernel))) h1 h2 h3 ?_
      refine lv_astore (lv' := [(5, .ref q9), (0, .ref (bv_a G 0)), (1, .int p0), (2, .int p1), (3, .int p2), (4, .ref (bv_a G 62))]) hx hb dL_drill_19 hl (by decide) rfl (fun ls hl => ?_)
      refine lv_iconst (v := 2) hx hb dL_drill_21 (by decide) ?_
      have hP : bv_H G (bv_vw (sp_drill S p0 p1 p2).2.2) M (z.1, if (sp_drill S p0 p1 p2).1 = 0 then (sp_drill S p0 p1 p2).2.1.toInt64 else z.2) H1 := by
        rw [sq_drill (by rw [hk]; decide), if_neg (by rw [hk]; decide)]; exact hP
      exact bv_iret hx hb hr hlocks hS (Nat.le_of_ble_eq_true rfl) (Nat.le_of_ble_eq_true rfl) dL_drill_22 hk.symm hP
  · refine lv_i2l hx hb dL_drill_10 rfl ?_
    refine bv_last hx hb hK hP hS dL_drill_11 (fun H locs hP hS => ?_)
    refine lv_goto (tgt := 23) hx hb dL_drill_12 (by decide) ?_
    refine lv_iconst (v := 0) hx hb dL_drill_23 (by decide) ?_
    have hP : bv_H G (bv_vw (sp_drill S p0 p1 p2).2.2) M (z.1, if (sp_drill S p0 p1 p2).1 = 0 then (sp_drill S p0 p1 p2).2.1.toInt64 else z.2) H := by
      rw [if_pos k_1]; exact hP
    exact bv_iret hx hb hr hlocks hS (Nat.le_of_ble_eq_true rfl) (Nat.le_of_ble_eq_true rfl) dL_drill_24 k_1.symm hP
theorem sq_fetch {X : bv_X} {p0 p1 : Int32} (h : ¬ (sp_fetch X p0 p1).1 = 0) : (sp_fetch X p0 p1).2.2 = X := by
  revert h
  unfold sp_fetch
  (repeat' split) <;> intro h <;> first | rfl | exact absurd rfl h
set_option maxHeartbeats 1000000 in
set_option maxRecDepth 100000 in
theorem c_L_fetch (l : Launch) (hlt : l.stackTraces = false) (G : bv_G) (S M : bv_X) (z : bv_Z) (n : Nat) (p0 p1 : Int32) (hn : n ≤ 1000) (hI : bv_I n S) : bv_M l yL_fetch wsL_fetch ({ frames := 9, cells := 3, slots := 18, locals := 149 }) [.ref (bv_a G 0), .int p0, .int p1, .ref (bv_a G 62)] G (bv_vw S) M z ((sp_fetch S p0 p1).1) (bv_vw (sp_fetch S p0 p1).2.2) M (z.1, if (sp_fetch S p0 p1).1 = 0 then (sp_fetch S p0 p1).2.1.toInt64 else z.2) := by
  refine va_MetW (cc := cL_fetch) (maxL := 5) (ret := some .int) (hh := [(0, 10, 13, 13), (0, 10, 17, 15)]) (by decide) rfl ?_
  intro p e s m args below meth c s₁ B hml hv
  obtain ⟨rfl, hz, hP, hK, hE⟩ := hv
  have hx := B.exec
  have hb := B.bytes
  have hr := B.returns
  have hts := atoms_spec (ws := wsL_fetch) B.pre
  have htab := vx_table (x := yL_fetch) B (hts _ List.mem_cons_self)
  have hown : s.vm.findClass RL = some m.cls := findClass_of_methodNamed B.named
  have hlocks := B.notSynchronized
  have hS : va_S (bv_A G) s.heap s.heap [] := va_S.rf
  have hl := lv_entry ([.ref (bv_a G 0), .int p0, .int p1, .ref (bv_a G 62)]) (n := 5) (Nat.le_of_ble_eq_true rfl)
  rw [lg_entry_eq]
  generalize (lg_sl ([.ref (bv_a G 0), .int p0, .int p1, .ref (bv_a G 62)]) ++ List.replicate (5 - (lg_sl ([.ref (bv_a G 0), .int p0, .int p1, .ref (bv_a G 62)])).length) Slot.unset).toArray = ls at hl ⊢
  have hl : lv_has ls 5 [(0, .ref (bv_a G 0)), (1, .int p0), (2, .int p1), (3, .ref (bv_a G 62))] := hl
  refine lv_aload_n hx hb dL_fetch_0 rfl (lv_at hl 3 rfl) ?_
  refine lv_iconst (v := 0) hx hb dL_fetch_1 (by decide) ?_
  refine lv_aload_n hx hb dL_fetch_2 rfl (lv_at hl 0 rfl) ?_
  refine lv_iload_n hx hb dL_fetch_3 rfl (lv_at hl 1 rfl) ?_
  refine lv_iload_n hx hb dL_fetch_4 rfl (lv_at hl 2 rfl) ?_
  refine bv_cxi (vx_runV (As := [.int p0, .int p1]) (rest := [.int 0, .ref (bv_a G 62)]) ⟨hx, hb, hml, hown, hts⟩ (c_X2_fetch l hlt G S M z n p0 p1 hn hI) (cwV 2 hts gL_fetch_X2_fetch rfl rfl rfl (by decide +kernel) ⟨Nat.le_of_ble_eq_true rfl, Nat.le_of_ble_eq_true rfl⟩) (bv_preV hz hP hK hE hS (ci := 2) (bv_c0 G _ _ _) rfl rfl) rfl rfl hl.1 rfl (lv_room (Nat.le_of_ble_eq_true rfl)) dL_fetch_5 ⟨Nat.le_of_ble_eq_true rfl, Nat.le_of_ble_eq_true rfl⟩) hS ?_ (fun H locs k_1 hP hS => ?_)
  · intro E ce q9 H1 locs1 hX hP hS h1 h2 h3
    rcases hX with ⟨rfl, hk⟩ | ⟨rfl, hk⟩
    · refine vx_catch hown [] _ _ htab (fun _ h => absurd h List.not_mem_nil) rfl (by decide) (hts (.classLink RL 13 "java/lang/IllegalArgumentException") (by decide +kernel)) (va_Nw.use rfl (hE.1 (.castable "java/lang/IllegalArgumentException" "java/lang/IllegalArgumentException") (by decide +kernel))) h1 h2 h3 ?_
      refine lv_astore (lv' := [(4, .ref q9), (0, .ref (bv_a G 0)), (1, .int p0), (2, .int p1), (3, .ref (bv_a G 62))]) hx hb dL_fetch_13 hl (by decide) rfl (fun ls hl => ?_)
      refine lv_iconst (v := 1) hx hb dL_fetch_15 (by decide) ?_
      have hP : bv_H G (bv_vw (sp_fetch S p0 p1).2.2) M (z.1, if (sp_fetch S p0 p1).1 = 0 then (sp_fetch S p0 p1).2.1.toInt64 else z.2) H1 := by
        rw [sq_fetch (by rw [hk]; decide), if_neg (by rw [hk]; decide)]; exact hP
      exact bv_iret hx hb hr hlocks hS (Nat.le_of_ble_eq_true rfl) (Nat.le_of_ble_eq_true rfl) dL_fetch_16 hk.symm hP
    · refine vx_catch hown [_] _ _ htab (fun y9 h9 => by cases List.mem_singleton.mp h9; exact Or.inr ⟨by decide, _, hts (.classLink RL 13 "java/lang/IllegalArgumentException") (by decide +kernel), hE.2.2.1 ("java/lang/IllegalStateException", "java/lang/IllegalArgumentException") (by decide +kernel)⟩) rfl (by decide) (hts (.classLink RL 15 "java/lang/IllegalStateException") (by decide +kernel)) (va_Nw.use rfl (hE.1 (.castable "java/lang/IllegalStateException" "java/lang/IllegalStateException") (by decide +kernel))) h1 h2 h3 ?_
      refine lv_astore (lv' := [(4, .ref q9), (0, .ref (bv_a G 0)), (1, .int p0), (2, .int p1), (3, .ref (bv_a G 62))]) hx hb dL_fetch_17 hl (by decide) rfl (fun ls hl => ?_)
      refine lv_iconst (v := 2) hx hb dL_fetch_19 (by decide) ?_
      have hP : bv_H G (bv_vw (sp_fetch S p0 p1).2.2) M (z.1, if (sp_fetch S p0 p1).1 = 0 then (sp_fetch S p0 p1).2.1.toInt64 else z.2) H1 := by
        rw [sq_fetch (by rw [hk]; decide), if_neg (by rw [hk]; decide)]; exact hP
      exact bv_iret hx hb hr hlocks hS (Nat.le_of_ble_eq_true rfl) (Nat.le_of_ble_eq_true rfl) dL_fetch_20 hk.symm hP
  · refine lv_i2l hx hb dL_fetch_8 rfl ?_
    refine bv_last hx hb hK hP hS dL_fetch_9 (fun H locs hP hS => ?_)
    refine lv_goto (tgt := 21) hx hb dL_fetch_10 (by decide) ?_
    refine lv_iconst (v := 0) hx hb dL_fetch_21 (by decide) ?_
    have hP : bv_H G (bv_vw (sp_fetch S p0 p1).2.2) M (z.1, if (sp_fetch S p0 p1).1 = 0 then (sp_fetch S p0 p1).2.1.toInt64 else z.2) H := by
      rw [if_pos k_1]; exact hP
    exact bv_iret hx hb hr hlocks hS (Nat.le_of_ble_eq_true rfl) (Nat.le_of_ble_eq_true rfl) dL_fetch_22 k_1.symm hP
theorem sq_proxy {X : bv_X} {p0 p1 p2 p3 : Int32} (h : ¬ (sp_proxy X p0 p1 p2 p3).1 = 0) : (sp_proxy X p0 p1 p2 p3).2.2 = X := by
  revert h
  unfold sp_proxy
  (repeat' split) <;> intro h <;> first | rfl | exact absurd rfl h
set_option maxHeartbeats 1000000 in
set_option maxRecDepth 100000 in
theorem c_L_proxy (l : Launch) (hlt : l.stackTraces = false) (G : bv_G) (S M : bv_X) (z : bv_Z) (n : Nat) (p0 p1 p2 p3 : Int32) (hn : n ≤ 1000) (hI : bv_I n S) : bv_M l yL_proxy wsL_proxy ({ frames := 9, cells := 6, slots := 36, locals := 150 }) [.ref (bv_a G 0), .int p0, .int p1, .int p2, .int p3, .ref (bv_a G 62)] G (bv_vw S) M z ((sp_proxy S p0 p1 p2 p3).1) (bv_vw (sp_proxy S p0 p1 p2 p3).2.2) M (z.1, if (sp_proxy S p0 p1 p2 p3).1 = 0 then (sp_proxy S p0 p1 p2 p3).2.1.toInt64 else z.2) := by
  refine va_MetW (cc := cL_proxy) (maxL := 7) (ret := some .int) (hh := [(0, 14, 17, 13), (0, 14, 21, 15)]) (by decide) rfl ?_
  intro p e s m args below meth c s₁ B hml hv
  obtain ⟨rfl, hz, hP, hK, hE⟩ := hv
  have hx := B.exec
  have hb := B.bytes
  have hr := B.returns
  have hts := atoms_spec (ws := wsL_proxy) B.pre
  have htab := vx_table (x := yL_proxy) B (hts _ List.mem_cons_self)
  have hown : s.vm.findClass RL = some m.cls := findClass_of_methodNamed B.named
  have hlocks := B.notSynchronized
  have hS : va_S (bv_A G) s.heap s.heap [] := va_S.rf
  have hl := lv_entry ([.ref (bv_a G 0), .int p0, .int p1, .int p2, .int p3, .ref (bv_a G 62)]) (n := 7) (Nat.le_of_ble_eq_true rfl)
  rw [lg_entry_eq]
  generalize (lg_sl ([.ref (bv_a G 0), .int p0, .int p1, .int p2, .int p3, .ref (bv_a G 62)]) ++ List.replicate (7 - (lg_sl ([.ref (bv_a G 0), .int p0, .int p1, .int p2, .int p3, .ref (bv_a G 62)])).length) Slot.unset).toArray = ls at hl ⊢
  have hl : lv_has ls 7 [(0, .ref (bv_a G 0)), (1, .int p0), (2, .int p1), (3, .int p2), (4, .int p3), (5, .ref (bv_a G 62))] := hl
  refine lv_aload hx hb dL_proxy_0 (lv_at hl 5 rfl) ?_
  refine lv_iconst (v := 0) hx hb dL_proxy_2 (by decide) ?_
  refine lv_aload_n hx hb dL_proxy_3 rfl (lv_at hl 0 rfl) ?_
  refine lv_iload_n hx hb dL_proxy_4 rfl (lv_at hl 1 rfl) ?_
  refine lv_iload_n hx hb dL_proxy_5 rfl (lv_at hl 2 rfl) ?_
  refine lv_iload_n hx hb dL_proxy_6 rfl (lv_at hl 3 rfl) ?_
  refine lv_iload hx hb dL_proxy_7 (lv_at hl 4 rfl) ?_
  refine bv_cxi (vx_runV (As := [.int p0, .int p1, .int p2, .int p3]) (rest := [.int 0, .ref (bv_a G 62)]) ⟨hx, hb, hml, hown, hts⟩ (c_X2_proxy l hlt G S M z n p0 p1 p2 p3 hn hI) (cwV 4 hts gL_proxy_X2_proxy rfl rfl rfl (by decide +kernel) ⟨Nat.le_of_ble_eq_true rfl, Nat.le_of_ble_eq_true rfl⟩) (bv_preV hz hP hK hE hS (ci := 2) (bv_c0 G _ _ _) rfl rfl) rfl rfl hl.1 rfl (lv_room (Nat.le_of_ble_eq_true rfl)) dL_proxy_9 ⟨Nat.le_of_ble_eq_true rfl, Nat.le_of_ble_eq_true rfl⟩) hS ?_ (fun H locs k_1 hP hS => ?_)
  · intro E ce q9 H1 locs1 hX hP hS h1 h2 h3
    rcases hX with ⟨rfl, hk⟩ | ⟨rfl, hk⟩
    · refine vx_catch hown [] _ _ htab (fun _ h => absurd h List.not_mem_nil) rfl (by decide) (hts (.classLink RL 13 "java/lang/IllegalArgumentException") (by decide +kernel)) (va_Nw.use rfl (hE.1 (.castable "java/lang/IllegalArgumentException" "java/lang/IllegalArgumentException") (by decide +kernel))) h1 h2 h3 ?_
      refine lv_astore (lv' := [(6, .ref q9), (0, .ref (bv_a G 0)), (1, .int p0), (2, .int p1), (3, .int p2), (4, .int p3), (5, .ref (bv_a G 62))]) hx hb dL_proxy_17 hl (by decide) rfl (fun ls hl => ?_)
      refine lv_iconst (v := 1) hx hb dL_proxy_19 (by decide) ?_
      have hP : bv_H G (bv_vw (sp_proxy S p0 p1 p2 p3).2.2) M (z.1, if (sp_proxy S p0 p1 p2 p3).1 = 0 then (sp_proxy S p0 p1 p2 p3).2.1.toInt64 else z.2) H1 := by
        rw [sq_proxy (by rw [hk]; decide), if_neg (by rw [hk]; decide)]; exact hP
      exact bv_iret hx hb hr hlocks hS (Nat.le_of_ble_eq_true rfl) (Nat.le_of_ble_eq_true rfl) dL_proxy_20 hk.symm hP
    · refine vx_catch hown [_] _ _ htab (fun y9 h9 => by cases List.mem_singleton.mp h9; exact Or.inr ⟨by decide, _, hts (.classLink RL 13 "java/lang/IllegalArgumentException") (by decide +kernel), hE.2.2.1 ("java/lang/IllegalStateException", "java/lang/IllegalArgumentException") (by decide +kernel)⟩) rfl (by decide) (hts (.classLink RL 15 "java/lang/IllegalStateException") (by decide +kernel)) (va_Nw.use rfl (hE.1 (.castable "java/lang/IllegalStateException" "java/lang/IllegalStateException") (by decide +kernel))) h1 h2 h3 ?_
      refine lv_astore (lv' := [(6, .ref q9), (0, .ref (bv_a G 0)), (1, .int p0), (2, .int p1), (3, .int p2), (4, .int p3), (5, .ref (bv_a G 62))]) hx hb dL_proxy_21 hl (by decide) rfl (fun ls hl => ?_)
      refine lv_iconst (v := 2) hx hb dL_proxy_23 (by decide) ?_
      have hP : bv_H G (bv_vw (sp_proxy S p0 p1 p2 p3).2.2) M (z.1, if (sp_proxy S p0 p1 p2 p3).1 = 0 then (sp_proxy S p0 p1 p2 p3).2.1.toInt64 else z.2) H1 := by
        rw [sq_proxy (by rw [hk]; decide), if_neg (by rw [hk]; decide)]; exact hP
      exact bv_iret hx hb hr hlocks hS (Nat.le_of_ble_eq_true rfl) (Nat.le_of_ble_eq_true rfl) dL_proxy_24 hk.symm hP
  · refine lv_i2l hx hb dL_proxy_12 rfl ?_
    refine bv_last hx hb hK hP hS dL_proxy_13 (fun H locs hP hS => ?_)
    refine lv_goto (tgt := 25) hx hb dL_proxy_14 (by decide) ?_
    refine lv_iconst (v := 0) hx hb dL_proxy_25 (by decide) ?_
    have hP : bv_H G (bv_vw (sp_proxy S p0 p1 p2 p3).2.2) M (z.1, if (sp_proxy S p0 p1 p2 p3).1 = 0 then (sp_proxy S p0 p1 p2 p3).2.1.toInt64 else z.2) H := by
      rw [if_pos k_1]; exact hP
    exact bv_iret hx hb hr hlocks hS (Nat.le_of_ble_eq_true rfl) (Nat.le_of_ble_eq_true rfl) dL_proxy_26 k_1.symm hP
theorem sq_heir {X : bv_X} {p0 p1 p2 : Int32} (h : ¬ (sp_heir X p0 p1 p2).1 = 0) : (sp_heir X p0 p1 p2).2.2 = X := by
  revert h
  unfold sp_heir
  (repeat' split) <;> intro h <;> first | rfl | exact absurd rfl h
theorem s2_heir {X : bv_X} {p0 p1 p2 : Int32} : ¬ (sp_heir X p0 p1 p2).1 = 2 := by
  unfold sp_heir
  split
  · exact show ¬ (0 : Int32) = 2 by decide
  · exact show ¬ (1 : Int32) = 2 by decide
theorem s01_heir {X : bv_X} {p0 p1 p2 : Int32} : (sp_heir X p0 p1 p2).2.1 = 0 ∨ (sp_heir X p0 p1 p2).2.1 = 1 := by
  unfold sp_heir bI
  (repeat' split) <;> first | exact Or.inl rfl | exact Or.inr rfl
set_option maxHeartbeats 1000000 in
set_option maxRecDepth 100000 in
theorem c_L_heir (l : Launch) (hlt : l.stackTraces = false) (G : bv_G) (S M : bv_X) (z : bv_Z) (n : Nat) (p0 p1 p2 : Int32) (hn : n ≤ 1000) (hI : bv_I n S) : bv_M l yL_heir wsL_heir ({ frames := 9, cells := 3, slots := 18, locals := 149 }) [.ref (bv_a G 0), .int p0, .int p1, .int p2, .ref (bv_a G 62)] G (bv_vw S) M z ((sp_heir S p0 p1 p2).1) (bv_vw (sp_heir S p0 p1 p2).2.2) M (z.1, if (sp_heir S p0 p1 p2).1 = 0 then (sp_heir S p0 p1 p2).2.1.toInt64 else z.2) := by
  refine va_MetW (cc := cL_heir) (maxL := 6) (ret := some .int) (hh := [(0, 19, 22, 13)]) (by decide) rfl ?_
  intro p e s m args below meth c s₁ B hml hv
  obtain ⟨rfl, hz, hP, hK, hE⟩ := hv
  have hx := B.exec
  have hb := B.bytes
  have hr := B.returns
  have hts := atoms_spec (ws := wsL_heir) B.pre
  have htab := vx_table (x := yL_heir) B (hts _ List.mem_cons_self)
  have hown : s.vm.findClass RL = some m.cls := findClass_of_methodNamed B.named
  have hlocks := B.notSynchronized
  have hS : va_S (bv_A G) s.heap s.heap [] := va_S.rf
  have hl := lv_entry ([.ref (bv_a G 0), .int p0, .int p1, .int p2, .ref (bv_a G 62)]) (n := 6) (Nat.le_of_ble_eq_true rfl)
  rw [lg_entry_eq]
  generalize (lg_sl ([.ref (bv_a G 0), .int p0, .int p1, .int p2, .ref (bv_a G 62)]) ++ List.replicate (6 - (lg_sl ([.ref (bv_a G 0), .int p0, .int p1, .int p2, .ref (bv_a G 62)])).length) Slot.unset).toArray = ls at hl ⊢
  have hl : lv_has ls 6 [(0, .ref (bv_a G 0)), (1, .int p0), (2, .int p1), (3, .int p2), (4, .ref (bv_a G 62))] := hl
  refine lv_aload hx hb dL_heir_0 (lv_at hl 4 rfl) ?_
  refine lv_iconst (v := 0) hx hb dL_heir_2 (by decide) ?_
  refine lv_aload_n hx hb dL_heir_3 rfl (lv_at hl 0 rfl) ?_
  refine lv_iload_n hx hb dL_heir_4 rfl (lv_at hl 1 rfl) ?_
  refine lv_iload_n hx hb dL_heir_5 rfl (lv_at hl 2 rfl) ?_
  refine lv_iload_n hx hb dL_heir_6 rfl (lv_at hl 3 rfl) ?_
  refine bv_cxi (vx_runV (As := [.int p0, .int p1, .int p2]) (rest := [.int 0, .ref (bv_a G 62)]) ⟨hx, hb, hml, hown, hts⟩ (c_X2_heir l hlt G S M z n p0 p1 p2 hn hI) (cwV 3 hts gL_heir_X2_heir rfl rfl rfl (by decide +kernel) ⟨Nat.le_of_ble_eq_true rfl, Nat.le_of_ble_eq_true rfl⟩) (bv_preV hz hP hK hE hS (ci := 2) (bv_c0 G _ _ _) rfl rfl) rfl rfl hl.1 rfl (lv_room (Nat.le_of_ble_eq_true rfl)) dL_heir_7 ⟨Nat.le_of_ble_eq_true rfl, Nat.le_of_ble_eq_true rfl⟩) hS ?_ (fun H locs k_1 hP hS => ?_)
  · intro E ce q9 H1 locs1 hX hP hS h1 h2 h3
    rcases hX with ⟨rfl, hk⟩ | ⟨rfl, hk⟩
    · refine vx_catch hown [] _ _ htab (fun _ h => absurd h List.not_mem_nil) rfl (by decide) (hts (.classLink RL 13 "java/lang/IllegalArgumentException") (by decide +kernel)) (va_Nw.use rfl (hE.1 (.castable "java/lang/IllegalArgumentException" "java/lang/IllegalArgumentException") (by decide +kernel))) h1 h2 h3 ?_
      refine lv_astore (lv' := [(5, .ref q9), (0, .ref (bv_a G 0)), (1, .int p0), (2, .int p1), (3, .int p2), (4, .ref (bv_a G 62))]) hx hb dL_heir_22 hl (by decide) rfl (fun ls hl => ?_)
      refine lv_iconst (v := 1) hx hb dL_heir_24 (by decide) ?_
      have hP : bv_H G (bv_vw (sp_heir S p0 p1 p2).2.2) M (z.1, if (sp_heir S p0 p1 p2).1 = 0 then (sp_heir S p0 p1 p2).2.1.toInt64 else z.2) H1 := by
        rw [sq_heir (by rw [hk]; decide), if_neg (by rw [hk]; decide)]; exact hP
      exact bv_iret hx hb hr hlocks hS (Nat.le_of_ble_eq_true rfl) (Nat.le_of_ble_eq_true rfl) dL_heir_25 hk.symm hP
    · exact absurd hk s2_heir
  · refine lv_if_eq (tgt := 17) hx hb dL_heir_10 (by decide) (fun c_1 => ?_) (fun c_1 => ?_)
    · refine lv_lconst (v := (sp_heir S p0 p1 p2).2.1.toInt64) hx hb dL_heir_17 (by rw [c_1]; rfl) ?_
      refine bv_last hx hb hK hP hS dL_heir_18 (fun H locs hP hS => ?_)
      refine lv_goto (tgt := 26) hx hb dL_heir_19 (by decide) ?_
      refine lv_iconst (v := 0) hx hb dL_heir_26 (by decide) ?_
      have hP : bv_H G (bv_vw (sp_heir S p0 p1 p2).2.2) M (z.1, if (sp_heir S p0 p1 p2).1 = 0 then (sp_heir S p0 p1 p2).2.1.toInt64 else z.2) H := by
        rw [if_pos k_1]; exact hP
      exact bv_iret hx hb hr hlocks hS (Nat.le_of_ble_eq_true rfl) (Nat.le_of_ble_eq_true rfl) dL_heir_27 k_1.symm hP
    · refine lv_lconst (v := (sp_heir S p0 p1 p2).2.1.toInt64) hx hb dL_heir_13 (by rw [(s01_heir).resolve_left c_1]; rfl) ?_
      refine lv_goto (tgt := 18) hx hb dL_heir_14 (by decide) ?_
      refine bv_last hx hb hK hP hS dL_heir_18 (fun H locs hP hS => ?_)
      refine lv_goto (tgt := 26) hx hb dL_heir_19 (by decide) ?_
      refine lv_iconst (v := 0) hx hb dL_heir_26 (by decide) ?_
      have hP : bv_H G (bv_vw (sp_heir S p0 p1 p2).2.2) M (z.1, if (sp_heir S p0 p1 p2).1 = 0 then (sp_heir S p0 p1 p2).2.1.toInt64 else z.2) H := by
        rw [if_pos k_1]; exact hP
      exact bv_iret hx hb hr hlocks hS (Nat.le_of_ble_eq_true rfl) (Nat.le_of_ble_eq_true rfl) dL_heir_27 k_1.symm hP
theorem sq_die {X : bv_X} {p0 : Int32} (h : ¬ (sp_die X p0).1 = 0) : (sp_die X p0).2.2 = X := by
  revert h
  unfold sp_die
  (repeat' split) <;> intro h <;> first | rfl | exact absurd rfl h
set_option maxHeartbeats 1000000 in
set_option maxRecDepth 100000 in
theorem c_L_die (l : Launch) (hlt : l.stackTraces = false) (G : bv_G) (S M : bv_X) (z : bv_Z) (n : Nat) (p0 : Int32) (hn : n ≤ 1000) (hI : bv_I n S) : bv_M l yL_die wsL_die ({ frames := 9, cells := 2, slots := 12, locals := 147 }) [.ref (bv_a G 0), .int p0, .ref (bv_a G 62)] G (bv_vw S) M z ((sp_die S p0).1) (bv_vw (sp_die S p0).2.2) M (z.1, if (sp_die S p0).1 = 0 then (sp_die S p0).2.1.toInt64 else z.2) := by
  refine va_MetW (cc := cL_die) (maxL := 4) (ret := some .int) (hh := [(0, 9, 12, 13), (0, 9, 15, 15)]) (by decide) rfl ?_
  intro p e s m args below meth c s₁ B hml hv
  obtain ⟨rfl, hz, hP, hK, hE⟩ := hv
  have hx := B.exec
  have hb := B.bytes
  have hr := B.returns
  have hts := atoms_spec (ws := wsL_die) B.pre
  have htab := vx_table (x := yL_die) B (hts _ List.mem_cons_self)
  have hown : s.vm.findClass RL = some m.cls := findClass_of_methodNamed B.named
  have hlocks := B.notSynchronized
  have hS : va_S (bv_A G) s.heap s.heap [] := va_S.rf
  have hl := lv_entry ([.ref (bv_a G 0), .int p0, .ref (bv_a G 62)]) (n := 4) (Nat.le_of_ble_eq_true rfl)
  rw [lg_entry_eq]
  generalize (lg_sl ([.ref (bv_a G 0), .int p0, .ref (bv_a G 62)]) ++ List.replicate (4 - (lg_sl ([.ref (bv_a G 0), .int p0, .ref (bv_a G 62)])).length) Slot.unset).toArray = ls at hl ⊢
  have hl : lv_has ls 4 [(0, .ref (bv_a G 0)), (1, .int p0), (2, .ref (bv_a G 62))] := hl
  refine lv_aload_n hx hb dL_die_0 rfl (lv_at hl 2 rfl) ?_
  refine lv_iconst (v := 0) hx hb dL_die_1 (by decide) ?_
  refine lv_aload_n hx hb dL_die_2 rfl (lv_at hl 0 rfl) ?_
  refine lv_iload_n hx hb dL_die_3 rfl (lv_at hl 1 rfl) ?_
  refine bv_cxi (vx_runV (As := [.int p0]) (rest := [.int 0, .ref (bv_a G 62)]) ⟨hx, hb, hml, hown, hts⟩ (c_X2_die l hlt G S M z n p0 hn hI) (cwV 1 hts gL_die_X2_die rfl rfl rfl (by decide +kernel) ⟨Nat.le_of_ble_eq_true rfl, Nat.le_of_ble_eq_true rfl⟩) (bv_preV hz hP hK hE hS (ci := 2) (bv_c0 G _ _ _) rfl rfl) rfl rfl hl.1 rfl (lv_room (Nat.le_of_ble_eq_true rfl)) dL_die_4 ⟨Nat.le_of_ble_eq_true rfl, Nat.le_of_ble_eq_true rfl⟩) hS ?_ (fun H locs k_1 hP hS => ?_)
  · intro E ce q9 H1 locs1 hX hP hS h1 h2 h3
    rcases hX with ⟨rfl, hk⟩ | ⟨rfl, hk⟩
    · refine vx_catch hown [] _ _ htab (fun _ h => absurd h List.not_mem_nil) rfl (by decide) (hts (.classLink RL 13 "java/lang/IllegalArgumentException") (by decide +kernel)) (va_Nw.use rfl (hE.1 (.castable "java/lang/IllegalArgumentException" "java/lang/IllegalArgumentException") (by decide +kernel))) h1 h2 h3 ?_
      refine lv_astore_n (lv' := [(3, .ref q9), (0, .ref (bv_a G 0)), (1, .int p0), (2, .ref (bv_a G 62))]) hx hb dL_die_12 rfl hl (by decide) rfl (fun ls hl => ?_)
      refine lv_iconst (v := 1) hx hb dL_die_13 (by decide) ?_
      have hP : bv_H G (bv_vw (sp_die S p0).2.2) M (z.1, if (sp_die S p0).1 = 0 then (sp_die S p0).2.1.toInt64 else z.2) H1 := by
        rw [sq_die (by rw [hk]; decide), if_neg (by rw [hk]; decide)]; exact hP
      exact bv_iret hx hb hr hlocks hS (Nat.le_of_ble_eq_true rfl) (Nat.le_of_ble_eq_true rfl) dL_die_14 hk.symm hP
    · refine vx_catch hown [_] _ _ htab (fun y9 h9 => by cases List.mem_singleton.mp h9; exact Or.inr ⟨by decide, _, hts (.classLink RL 13 "java/lang/IllegalArgumentException") (by decide +kernel), hE.2.2.1 ("java/lang/IllegalStateException", "java/lang/IllegalArgumentException") (by decide +kernel)⟩) rfl (by decide) (hts (.classLink RL 15 "java/lang/IllegalStateException") (by decide +kernel)) (va_Nw.use rfl (hE.1 (.castable "java/lang/IllegalStateException" "java/lang/IllegalStateException") (by decide +kernel))) h1 h2 h3 ?_
      refine lv_astore_n (lv' := [(3, .ref q9), (0, .ref (bv_a G 0)), (1, .int p0), (2, .ref (bv_a G 62))]) hx hb dL_die_15 rfl hl (by decide) rfl (fun ls hl => ?_)
      refine lv_iconst (v := 2) hx hb dL_die_16 (by decide) ?_
      have hP : bv_H G (bv_vw (sp_die S p0).2.2) M (z.1, if (sp_die S p0).1 = 0 then (sp_die S p0).2.1.toInt64 else z.2) H1 := by
        rw [sq_die (by rw [hk]; decide), if_neg (by rw [hk]; decide)]; exact hP
      exact bv_iret hx hb hr hlocks hS (Nat.le_of_ble_eq_true rfl) (Nat.le_of_ble_eq_true rfl) dL_die_17 hk.symm hP
  · refine lv_i2l hx hb dL_die_7 rfl ?_
    refine bv_last hx hb hK hP hS dL_die_8 (fun H locs hP hS => ?_)
    refine lv_goto (tgt := 18) hx hb dL_die_9 (by decide) ?_
    refine lv_iconst (v := 0) hx hb dL_die_18 (by decide) ?_
    have hP : bv_H G (bv_vw (sp_die S p0).2.2) M (z.1, if (sp_die S p0).1 = 0 then (sp_die S p0).2.1.toInt64 else z.2) H := by
      rw [if_pos k_1]; exact hP
    exact bv_iret hx hb hr hlocks hS (Nat.le_of_ble_eq_true rfl) (Nat.le_of_ble_eq_true rfl) dL_die_19 k_1.symm hP
theorem sq_order {X : bv_X} {p0 p1 p2 p3 : Int32} (h : ¬ (sp_order X p0 p1 p2 p3).1 = 0) : (sp_order X p0 p1 p2 p3).2.2 = X := by
  revert h
  unfold sp_order
  (repeat' split) <;> intro h <;> first | rfl | exact absurd rfl h
set_option maxHeartbeats 1000000 in
set_option maxRecDepth 100000 in
theorem c_L_order (l : Launch) (hlt : l.stackTraces = false) (G : bv_G) (S M : bv_X) (z : bv_Z) (n : Nat) (p0 p1 p2 p3 : Int32) (hn : n ≤ 1000) (hI : bv_I n S) : bv_M l yL_order wsL_order ({ frames := 9, cells := 5, slots := 30, locals := 150 }) [.ref (bv_a G 0), .int p0, .int p1, .int p2, .int p3, .ref (bv_a G 62)] G (bv_vw S) M z ((sp_order S p0 p1 p2 p3).1) (bv_vw (sp_order S p0 p1 p2 p3).2.2) M (z.1, if (sp_order S p0 p1 p2 p3).1 = 0 then (sp_order S p0 p1 p2 p3).2.1.toInt64 else z.2) := by
  refine va_MetW (cc := cL_order) (maxL := 7) (ret := some .int) (hh := [(0, 14, 17, 13), (0, 14, 21, 15)]) (by decide) rfl ?_
  intro p e s m args below meth c s₁ B hml hv
  obtain ⟨rfl, hz, hP, hK, hE⟩ := hv
  have hx := B.exec
  have hb := B.bytes
  have hr := B.returns
  have hts := atoms_spec (ws := wsL_order) B.pre
  have htab := vx_table (x := yL_order) B (hts _ List.mem_cons_self)
  have hown : s.vm.findClass RL = some m.cls := findClass_of_methodNamed B.named
  have hlocks := B.notSynchronized
  have hS : va_S (bv_A G) s.heap s.heap [] := va_S.rf
  have hl := lv_entry ([.ref (bv_a G 0), .int p0, .int p1, .int p2, .int p3, .ref (bv_a G 62)]) (n := 7) (Nat.le_of_ble_eq_true rfl)
  rw [lg_entry_eq]
  generalize (lg_sl ([.ref (bv_a G 0), .int p0, .int p1, .int p2, .int p3, .ref (bv_a G 62)]) ++ List.replicate (7 - (lg_sl ([.ref (bv_a G 0), .int p0, .int p1, .int p2, .int p3, .ref (bv_a G 62)])).length) Slot.unset).toArray = ls at hl ⊢
  have hl : lv_has ls 7 [(0, .ref (bv_a G 0)), (1, .int p0), (2, .int p1), (3, .int p2), (4, .int p3), (5, .ref (bv_a G 62))] := hl
  refine lv_aload hx hb dL_order_0 (lv_at hl 5 rfl) ?_
  refine lv_iconst (v := 0) hx hb dL_order_2 (by decide) ?_
  refine lv_aload_n hx hb dL_order_3 rfl (lv_at hl 0 rfl) ?_
  refine lv_iload_n hx hb dL_order_4 rfl (lv_at hl 1 rfl) ?_
  refine lv_iload_n hx hb dL_order_5 rfl (lv_at hl 2 rfl) ?_
  refine lv_iload_n hx hb dL_order_6 rfl (lv_at hl 3 rfl) ?_
  refine lv_iload hx hb dL_order_7 (lv_at hl 4 rfl) ?_
  refine bv_cxi (vx_runV (As := [.int p0, .int p1, .int p2, .int p3]) (rest := [.int 0, .ref (bv_a G 62)]) ⟨hx, hb, hml, hown, hts⟩ (c_X2_order l hlt G S M z n p0 p1 p2 p3 hn hI) (cwV 4 hts gL_order_X2_order rfl rfl rfl (by decide +kernel) ⟨Nat.le_of_ble_eq_true rfl, Nat.le_of_ble_eq_true rfl⟩) (bv_preV hz hP hK hE hS (ci := 2) (bv_c0 G _ _ _) rfl rfl) rfl rfl hl.1 rfl (lv_room (Nat.le_of_ble_eq_true rfl)) dL_order_9 ⟨Nat.le_of_ble_eq_true rfl, Nat.le_of_ble_eq_true rfl⟩) hS ?_ (fun H locs k_1 hP hS => ?_)
  · intro E ce q9 H1 locs1 hX hP hS h1 h2 h3
    rcases hX with ⟨rfl, hk⟩ | ⟨rfl, hk⟩
    · refine vx_catch hown [] _ _ htab (fun _ h => absurd h List.not_mem_nil) rfl (by decide) (hts (.classLink RL 13 "java/lang/IllegalArgumentException") (by decide +kernel)) (va_Nw.use rfl (hE.1 (.castable "java/lang/IllegalArgumentException" "java/lang/IllegalArgumentException") (by decide +kernel))) h1 h2 h3 ?_
      refine lv_astore (lv' := [(6, .ref q9), (0, .ref (bv_a G 0)), (1, .int p0), (2, .int p1), (3, .int p2), (4, .int p3), (5, .ref (bv_a G 62))]) hx hb dL_order_17 hl (by decide) rfl (fun ls hl => ?_)
      refine lv_iconst (v := 1) hx hb dL_order_19 (by decide) ?_
      have hP : bv_H G (bv_vw (sp_order S p0 p1 p2 p3).2.2) M (z.1, if (sp_order S p0 p1 p2 p3).1 = 0 then (sp_order S p0 p1 p2 p3).2.1.toInt64 else z.2) H1 := by
        rw [sq_order (by rw [hk]; decide), if_neg (by rw [hk]; decide)]; exact hP
      exact bv_iret hx hb hr hlocks hS (Nat.le_of_ble_eq_true rfl) (Nat.le_of_ble_eq_true rfl) dL_order_20 hk.symm hP
    · refine vx_catch hown [_] _ _ htab (fun y9 h9 => by cases List.mem_singleton.mp h9; exact Or.inr ⟨by decide, _, hts (.classLink RL 13 "java/lang/IllegalArgumentException") (by decide +kernel), hE.2.2.1 ("java/lang/IllegalStateException", "java/lang/IllegalArgumentException") (by decide +kernel)⟩) rfl (by decide) (hts (.classLink RL 15 "java/lang/IllegalStateException") (by decide +kernel)) (va_Nw.use rfl (hE.1 (.castable "java/lang/IllegalStateException" "java/lang/IllegalStateException") (by decide +kernel))) h1 h2 h3 ?_
      refine lv_astore (lv' := [(6, .ref q9), (0, .ref (bv_a G 0)), (1, .int p0), (2, .int p1), (3, .int p2), (4, .int p3), (5, .ref (bv_a G 62))]) hx hb dL_order_21 hl (by decide) rfl (fun ls hl => ?_)
      refine lv_iconst (v := 2) hx hb dL_order_23 (by decide) ?_
      have hP : bv_H G (bv_vw (sp_order S p0 p1 p2 p3).2.2) M (z.1, if (sp_order S p0 p1 p2 p3).1 = 0 then (sp_order S p0 p1 p2 p3).2.1.toInt64 else z.2) H1 := by
        rw [sq_order (by rw [hk]; decide), if_neg (by rw [hk]; decide)]; exact hP
      exact bv_iret hx hb hr hlocks hS (Nat.le_of_ble_eq_true rfl) (Nat.le_of_ble_eq_true rfl) dL_order_24 hk.symm hP
  · refine lv_i2l hx hb dL_order_12 rfl ?_
    refine bv_last hx hb hK hP hS dL_order_13 (fun H locs hP hS => ?_)
    refine lv_goto (tgt := 25) hx hb dL_order_14 (by decide) ?_
    refine lv_iconst (v := 0) hx hb dL_order_25 (by decide) ?_
    have hP : bv_H G (bv_vw (sp_order S p0 p1 p2 p3).2.2) M (z.1, if (sp_order S p0 p1 p2 p3).1 = 0 then (sp_order S p0 p1 p2 p3).2.1.toInt64 else z.2) H := by
      rw [if_pos k_1]; exact hP
    exact bv_iret hx hb hr hlocks hS (Nat.le_of_ble_eq_true rfl) (Nat.le_of_ble_eq_true rfl) dL_order_26 k_1.symm hP
theorem sq_lift {X : bv_X} {p0 : Int32} (h : ¬ (sp_lift X p0).1 = 0) : (sp_lift X p0).2.2 = X := by
  revert h
  unfold sp_lift
  (repeat' split) <;> intro h <;> first | rfl | exact absurd rfl h
theorem s01_lift {X : bv_X} {p0 : Int32} : (sp_lift X p0).2.1 = 0 ∨ (sp_lift X p0).2.1 = 1 := by
  unfold sp_lift bI
  (repeat' split) <;> first | exact Or.inl rfl | exact Or.inr rfl
set_option maxHeartbeats 1000000 in
set_option maxRecDepth 100000 in
theorem c_L_lift (l : Launch) (hlt : l.stackTraces = false) (G : bv_G) (S M : bv_X) (z : bv_Z) (n : Nat) (p0 : Int32) (hn : n ≤ 1000) (hI : bv_I n S) : bv_M l yL_lift wsL_lift ({ frames := 7, cells := 1, slots := 6, locals := 104 }) [.ref (bv_a G 0), .int p0, .ref (bv_a G 62)] G (bv_vw S) M z ((sp_lift S p0).1) (bv_vw (sp_lift S p0).2.2) M (z.1, if (sp_lift S p0).1 = 0 then (sp_lift S p0).2.1.toInt64 else z.2) := by
  refine va_MetW (cc := cL_lift) (maxL := 4) (ret := some .int) (hh := [(0, 16, 19, 52), (0, 16, 22, 15)]) (by decide) rfl ?_
  intro p e s m args below meth c s₁ B hml hv
  obtain ⟨rfl, hz, hP, hK, hE⟩ := hv
  have hx := B.exec
  have hb := B.bytes
  have hr := B.returns
  have hts := atoms_spec (ws := wsL_lift) B.pre
  have htab := vx_table (x := yL_lift) B (hts _ List.mem_cons_self)
  have hown : s.vm.findClass RL = some m.cls := findClass_of_methodNamed B.named
  have hlocks := B.notSynchronized
  have hS : va_S (bv_A G) s.heap s.heap [] := va_S.rf
  have hl := lv_entry ([.ref (bv_a G 0), .int p0, .ref (bv_a G 62)]) (n := 4) (Nat.le_of_ble_eq_true rfl)
  rw [lg_entry_eq]
  generalize (lg_sl ([.ref (bv_a G 0), .int p0, .ref (bv_a G 62)]) ++ List.replicate (4 - (lg_sl ([.ref (bv_a G 0), .int p0, .ref (bv_a G 62)])).length) Slot.unset).toArray = ls at hl ⊢
  have hl : lv_has ls 4 [(0, .ref (bv_a G 0)), (1, .int p0), (2, .ref (bv_a G 62))] := hl
  refine lv_aload_n hx hb dL_lift_0 rfl (lv_at hl 2 rfl) ?_
  refine lv_iconst (v := 0) hx hb dL_lift_1 (by decide) ?_
  refine lv_aload_n hx hb dL_lift_2 rfl (lv_at hl 0 rfl) ?_
  refine lv_iload_n hx hb dL_lift_3 rfl (lv_at hl 1 rfl) ?_
  refine bv_cxi (vx_runV (As := [.int p0]) (rest := [.int 0, .ref (bv_a G 62)]) ⟨hx, hb, hml, hown, hts⟩ (c_X2_lift l hlt G S M z n p0 hn hI) (cwV 1 hts gL_lift_X2_lift rfl rfl rfl (by decide +kernel) ⟨Nat.le_of_ble_eq_true rfl, Nat.le_of_ble_eq_true rfl⟩) (bv_preV hz hP hK hE hS (ci := 2) (bv_c0 G _ _ _) rfl rfl) rfl rfl hl.1 rfl (lv_room (Nat.le_of_ble_eq_true rfl)) dL_lift_4 ⟨Nat.le_of_ble_eq_true rfl, Nat.le_of_ble_eq_true rfl⟩) hS ?_ (fun H locs k_1 hP hS => ?_)
  · intro E ce q9 H1 locs1 hX hP hS h1 h2 h3
    rcases hX with ⟨rfl, hk⟩ | ⟨rfl, hk⟩
    · refine vx_catch hown [] _ _ htab (fun _ h => absurd h List.not_mem_nil) rfl (by decide) (hts (.classLink RL 52 "java/lang/IndexOutOfBoundsException") (by decide +kernel)) (va_Nw.use rfl (hE.1 (.castable "java/lang/IndexOutOfBoundsException" "java/lang/IndexOutOfBoundsException") (by decide +kernel))) h1 h2 h3 ?_
      refine lv_astore_n (lv' := [(3, .ref q9), (0, .ref (bv_a G 0)), (1, .int p0), (2, .ref (bv_a G 62))]) hx hb dL_lift_19 rfl hl (by decide) rfl (fun ls hl => ?_)
      refine lv_iconst (v := 1) hx hb dL_lift_20 (by decide) ?_
      have hP : bv_H G (bv_vw (sp_lift S p0).2.2) M (z.1, if (sp_lift S p0).1 = 0 then (sp_lift S p0).2.1.toInt64 else z.2) H1 := by
        rw [sq_lift (by rw [hk]; decide), if_neg (by rw [hk]; decide)]; exact hP
      exact bv_iret hx hb hr hlocks hS (Nat.le_of_ble_eq_true rfl) (Nat.le_of_ble_eq_true rfl) dL_lift_21 hk.symm hP
    · refine vx_catch hown [_] _ _ htab (fun y9 h9 => by cases List.mem_singleton.mp h9; exact Or.inr ⟨by decide, _, hts (.classLink RL 52 "java/lang/IndexOutOfBoundsException") (by decide +kernel), hE.2.2.1 ("java/lang/IllegalStateException", "java/lang/IndexOutOfBoundsException") (by decide +kernel)⟩) rfl (by decide) (hts (.classLink RL 15 "java/lang/IllegalStateException") (by decide +kernel)) (va_Nw.use rfl (hE.1 (.castable "java/lang/IllegalStateException" "java/lang/IllegalStateException") (by decide +kernel))) h1 h2 h3 ?_
      refine lv_astore_n (lv' := [(3, .ref q9), (0, .ref (bv_a G 0)), (1, .int p0), (2, .ref (bv_a G 62))]) hx hb dL_lift_22 rfl hl (by decide) rfl (fun ls hl => ?_)
      refine lv_iconst (v := 2) hx hb dL_lift_23 (by decide) ?_
      have hP : bv_H G (bv_vw (sp_lift S p0).2.2) M (z.1, if (sp_lift S p0).1 = 0 then (sp_lift S p0).2.1.toInt64 else z.2) H1 := by
        rw [sq_lift (by rw [hk]; decide), if_neg (by rw [hk]; decide)]; exact hP
      exact bv_iret hx hb hr hlocks hS (Nat.le_of_ble_eq_true rfl) (Nat.le_of_ble_eq_true rfl) dL_lift_24 hk.symm hP
  · refine lv_if_eq (tgt := 14) hx hb dL_lift_7 (by decide) (fun c_1 => ?_) (fun c_1 => ?_)
    · refine lv_lconst (v := (sp_lift S p0).2.1.toInt64) hx hb dL_lift_14 (by rw [c_1]; rfl) ?_
      refine bv_last hx hb hK hP hS dL_lift_15 (fun H locs hP hS => ?_)
      refine lv_goto (tgt := 25) hx hb dL_lift_16 (by decide) ?_
      refine lv_iconst (v := 0) hx hb dL_lift_25 (by decide) ?_
      have hP : bv_H G (bv_vw (sp_lift S p0).2.2) M (z.1, if (sp_lift S p0).1 = 0 then (sp_lift S p0).2.1.toInt64 else z.2) H := by
        rw [if_pos k_1]; exact hP
      exact bv_iret hx hb hr hlocks hS (Nat.le_of_ble_eq_true rfl) (Nat.le_of_ble_eq_true rfl) dL_lift_26 k_1.symm hP
    · refine lv_lconst (v := (sp_lift S p0).2.1.toInt64) hx hb dL_lift_10 (by rw [(s01_lift).resolve_left c_1]; rfl) ?_
      refine lv_goto (tgt := 15) hx hb dL_lift_11 (by decide) ?_
      refine bv_last hx hb hK hP hS dL_lift_15 (fun H locs hP hS => ?_)
      refine lv_goto (tgt := 25) hx hb dL_lift_16 (by decide) ?_
      refine lv_iconst (v := 0) hx hb dL_lift_25 (by decide) ?_
      have hP : bv_H G (bv_vw (sp_lift S p0).2.2) M (z.1, if (sp_lift S p0).1 = 0 then (sp_lift S p0).2.1.toInt64 else z.2) H := by
        rw [if_pos k_1]; exact hP
      exact bv_iret hx hb hr hlocks hS (Nat.le_of_ble_eq_true rfl) (Nat.le_of_ble_eq_true rfl) dL_lift_26 k_1.symm hP
theorem sq_enter {X : bv_X} {p0 p1 p2 : Int32} (h : ¬ (sp_enter X p0 p1 p2).1 = 0) : (sp_enter X p0 p1 p2).2.2 = X := by
  revert h
  unfold sp_enter
  (repeat' split) <;> intro h <;> first | rfl | exact absurd rfl h
set_option maxHeartbeats 1000000 in
set_option maxRecDepth 100000 in
theorem c_L_enter (l : Launch) (hlt : l.stackTraces = false) (G : bv_G) (S M : bv_X) (z : bv_Z) (n : Nat) (p0 p1 p2 : Int32) (hn : n ≤ 1000) (hI : bv_I n S) : bv_M l yL_enter wsL_enter ({ frames := 9, cells := 4, slots := 24, locals := 150 }) [.ref (bv_a G 0), .int p0, .int p1, .int p2, .ref (bv_a G 62)] G (bv_vw S) M z ((sp_enter S p0 p1 p2).1) (bv_vw (sp_enter S p0 p1 p2).2.2) M (z.1, if (sp_enter S p0 p1 p2).1 = 0 then (sp_enter S p0 p1 p2).2.1.toInt64 else z.2) := by
  refine va_MetW (cc := cL_enter) (maxL := 6) (ret := some .int) (hh := [(0, 12, 15, 13), (0, 12, 19, 15)]) (by decide) rfl ?_
  intro p e s m args below meth c s₁ B hml hv
  obtain ⟨rfl, hz, hP, hK, hE⟩ := hv
  have hx := B.exec
  have hb := B.bytes
  have hr := B.returns
  have hts := atoms_spec (ws := wsL_enter) B.pre
  have htab := vx_table (x := yL_enter) B (hts _ List.mem_cons_self)
  have hown : s.vm.findClass RL = some m.cls := findClass_of_methodNamed B.named
  have hlocks := B.notSynchronized
  have hS : va_S (bv_A G) s.heap s.heap [] := va_S.rf
  have hl := lv_entry ([.ref (bv_a G 0), .int p0, .int p1, .int p2, .ref (bv_a G 62)]) (n := 6) (Nat.le_of_ble_eq_true rfl)
  rw [lg_entry_eq]
  generalize (lg_sl ([.ref (bv_a G 0), .int p0, .int p1, .int p2, .ref (bv_a G 62)]) ++ List.replicate (6 - (lg_sl ([.ref (bv_a G 0), .int p0, .int p1, .int p2, .ref (bv_a G 62)])).length) Slot.unset).toArray = ls at hl ⊢
  have hl : lv_has ls 6 [(0, .ref (bv_a G 0)), (1, .int p0), (2, .int p1), (3, .int p2), (4, .ref (bv_a G 62))] := hl
  refine lv_aload hx hb dL_enter_0 (lv_at hl 4 rfl) ?_
  refine lv_iconst (v := 0) hx hb dL_enter_2 (by decide) ?_
  refine lv_aload_n hx hb dL_enter_3 rfl (lv_at hl 0 rfl) ?_
  refine lv_iload_n hx hb dL_enter_4 rfl (lv_at hl 1 rfl) ?_
  refine lv_iload_n hx hb dL_enter_5 rfl (lv_at hl 2 rfl) ?_
  refine lv_iload_n hx hb dL_enter_6 rfl (lv_at hl 3 rfl) ?_
  refine bv_cxi (vx_runV (As := [.int p0, .int p1, .int p2]) (rest := [.int 0, .ref (bv_a G 62)]) ⟨hx, hb, hml, hown, hts⟩ (c_X2_enter l hlt G S M z n p0 p1 p2 hn hI) (cwV 3 hts gL_enter_X2_enter rfl rfl rfl (by decide +kernel) ⟨Nat.le_of_ble_eq_true rfl, Nat.le_of_ble_eq_true rfl⟩) (bv_preV hz hP hK hE hS (ci := 2) (bv_c0 G _ _ _) rfl rfl) rfl rfl hl.1 rfl (lv_room (Nat.le_of_ble_eq_true rfl)) dL_enter_7 ⟨Nat.le_of_ble_eq_true rfl, Nat.le_of_ble_eq_true rfl⟩) hS ?_ (fun H locs k_1 hP hS => ?_)
  · intro E ce q9 H1 locs1 hX hP hS h1 h2 h3
    rcases hX with ⟨rfl, hk⟩ | ⟨rfl, hk⟩
    · refine vx_catch hown [] _ _ htab (fun _ h => absurd h List.not_mem_nil) rfl (by decide) (hts (.classLink RL 13 "java/lang/IllegalArgumentException") (by decide +kernel)) (va_Nw.use rfl (hE.1 (.castable "java/lang/IllegalArgumentException" "java/lang/IllegalArgumentException") (by decide +kernel))) h1 h2 h3 ?_
      refine lv_astore (lv' := [(5, .ref q9), (0, .ref (bv_a G 0)), (1, .int p0), (2, .int p1), (3, .int p2), (4, .ref (bv_a G 62))]) hx hb dL_enter_15 hl (by decide) rfl (fun ls hl => ?_)
      refine lv_iconst (v := 1) hx hb dL_enter_17 (by decide) ?_
      have hP : bv_H G (bv_vw (sp_enter S p0 p1 p2).2.2) M (z.1, if (sp_enter S p0 p1 p2).1 = 0 then (sp_enter S p0 p1 p2).2.1.toInt64 else z.2) H1 := by
        rw [sq_enter (by rw [hk]; decide), if_neg (by rw [hk]; decide)]; exact hP
      exact bv_iret hx hb hr hlocks hS (Nat.le_of_ble_eq_true rfl) (Nat.le_of_ble_eq_true rfl) dL_enter_18 hk.symm hP
    · refine vx_catch hown [_] _ _ htab (fun y9 h9 => by cases List.mem_singleton.mp h9; exact Or.inr ⟨by decide, _, hts (.classLink RL 13 "java/lang/IllegalArgumentException") (by decide +kernel), hE.2.2.1 ("java/lang/IllegalStateException", "java/lang/IllegalArgumentException") (by decide +kernel)⟩) rfl (by decide) (hts (.classLink RL 15 "java/lang/IllegalStateException") (by decide +kernel)) (va_Nw.use rfl (hE.1 (.castable "java/lang/IllegalStateException" "java/lang/IllegalStateException") (by decide +kernel))) h1 h2 h3 ?_
      refine lv_astore (lv' := [(5, .ref q9), (0, .ref (bv_a G 0)), (1, .int p0), (2, .int p1), (3, .int p2), (4, .ref (bv_a G 62))]) hx hb dL_enter_19 hl (by decide) rfl (fun ls hl => ?_)
      refine lv_iconst (v := 2) hx hb dL_enter_21 (by decide) ?_
      have hP : bv_H G (bv_vw (sp_enter S p0 p1 p2).2.2) M (z.1, if (sp_enter S p0 p1 p2).1 = 0 then (sp_enter S p0 p1 p2).2.1.toInt64 else z.2) H1 := by
        rw [sq_enter (by rw [hk]; decide), if_neg (by rw [hk]; decide)]; exact hP
      exact bv_iret hx hb hr hlocks hS (Nat.le_of_ble_eq_true rfl) (Nat.le_of_ble_eq_true rfl) dL_enter_22 hk.symm hP
  · refine lv_i2l hx hb dL_enter_10 rfl ?_
    refine bv_last hx hb hK hP hS dL_enter_11 (fun H locs hP hS => ?_)
    refine lv_goto (tgt := 23) hx hb dL_enter_12 (by decide) ?_
    refine lv_iconst (v := 0) hx hb dL_enter_23 (by decide) ?_
    have hP : bv_H G (bv_vw (sp_enter S p0 p1 p2).2.2) M (z.1, if (sp_enter S p0 p1 p2).1 = 0 then (sp_enter S p0 p1 p2).2.1.toInt64 else z.2) H := by
      rw [if_pos k_1]; exact hP
    exact bv_iret hx hb hr hlocks hS (Nat.le_of_ble_eq_true rfl) (Nat.le_of_ble_eq_true rfl) dL_enter_24 k_1.symm hP
theorem sq_may {X : bv_X} {p0 p1 : Int32} (h : ¬ (sp_may X p0 p1).1 = 0) : (sp_may X p0 p1).2.2 = X := by
  revert h
  unfold sp_may
  (repeat' split) <;> intro h <;> first | rfl | exact absurd rfl h
theorem s2_may {X : bv_X} {p0 p1 : Int32} : ¬ (sp_may X p0 p1).1 = 2 := by
  unfold sp_may
  split
  · exact show ¬ (0 : Int32) = 2 by decide
  · exact show ¬ (1 : Int32) = 2 by decide
set_option maxHeartbeats 1000000 in
set_option maxRecDepth 100000 in
theorem c_L_may (l : Launch) (hlt : l.stackTraces = false) (G : bv_G) (S M : bv_X) (z : bv_Z) (n : Nat) (p0 p1 : Int32) (hn : n ≤ 1000) (hI : bv_I n S) : bv_M l yL_may wsL_may ({ frames := 9, cells := 2, slots := 12, locals := 148 }) [.ref (bv_a G 0), .int p0, .int p1, .ref (bv_a G 62)] G (bv_vw S) M z ((sp_may S p0 p1).1) (bv_vw (sp_may S p0 p1).2.2) M (z.1, if (sp_may S p0 p1).1 = 0 then (sp_may S p0 p1).2.1.toInt64 else z.2) := by
  refine va_MetW (cc := cL_may) (maxL := 5) (ret := some .int) (hh := [(0, 10, 13, 13)]) (by decide) rfl ?_
  intro p e s m args below meth c s₁ B hml hv
  obtain ⟨rfl, hz, hP, hK, hE⟩ := hv
  have hx := B.exec
  have hb := B.bytes
  have hr := B.returns
  have hts := atoms_spec (ws := wsL_may) B.pre
  have htab := vx_table (x := yL_may) B (hts _ List.mem_cons_self)
  have hown : s.vm.findClass RL = some m.cls := findClass_of_methodNamed B.named
  have hlocks := B.notSynchronized
  have hS : va_S (bv_A G) s.heap s.heap [] := va_S.rf
  have hl := lv_entry ([.ref (bv_a G 0), .int p0, .int p1, .ref (bv_a G 62)]) (n := 5) (Nat.le_of_ble_eq_true rfl)
  rw [lg_entry_eq]
  generalize (lg_sl ([.ref (bv_a G 0), .int p0, .int p1, .ref (bv_a G 62)]) ++ List.replicate (5 - (lg_sl ([.ref (bv_a G 0), .int p0, .int p1, .ref (bv_a G 62)])).length) Slot.unset).toArray = ls at hl ⊢
  have hl : lv_has ls 5 [(0, .ref (bv_a G 0)), (1, .int p0), (2, .int p1), (3, .ref (bv_a G 62))] := hl
  refine lv_aload_n hx hb dL_may_0 rfl (lv_at hl 3 rfl) ?_
  refine lv_iconst (v := 0) hx hb dL_may_1 (by decide) ?_
  refine lv_aload_n hx hb dL_may_2 rfl (lv_at hl 0 rfl) ?_
  refine lv_iload_n hx hb dL_may_3 rfl (lv_at hl 1 rfl) ?_
  refine lv_iload_n hx hb dL_may_4 rfl (lv_at hl 2 rfl) ?_
  refine bv_cxi (vx_runV (As := [.int p0, .int p1]) (rest := [.int 0, .ref (bv_a G 62)]) ⟨hx, hb, hml, hown, hts⟩ (c_X2_may l hlt G S M z n p0 p1 hn hI) (cwV 2 hts gL_may_X2_may rfl rfl rfl (by decide +kernel) ⟨Nat.le_of_ble_eq_true rfl, Nat.le_of_ble_eq_true rfl⟩) (bv_preV hz hP hK hE hS (ci := 2) (bv_c0 G _ _ _) rfl rfl) rfl rfl hl.1 rfl (lv_room (Nat.le_of_ble_eq_true rfl)) dL_may_5 ⟨Nat.le_of_ble_eq_true rfl, Nat.le_of_ble_eq_true rfl⟩) hS ?_ (fun H locs k_1 hP hS => ?_)
  · intro E ce q9 H1 locs1 hX hP hS h1 h2 h3
    rcases hX with ⟨rfl, hk⟩ | ⟨rfl, hk⟩
    · refine vx_catch hown [] _ _ htab (fun _ h => absurd h List.not_mem_nil) rfl (by decide) (hts (.classLink RL 13 "java/lang/IllegalArgumentException") (by decide +kernel)) (va_Nw.use rfl (hE.1 (.castable "java/lang/IllegalArgumentException" "java/lang/IllegalArgumentException") (by decide +kernel))) h1 h2 h3 ?_
      refine lv_astore (lv' := [(4, .ref q9), (0, .ref (bv_a G 0)), (1, .int p0), (2, .int p1), (3, .ref (bv_a G 62))]) hx hb dL_may_13 hl (by decide) rfl (fun ls hl => ?_)
      refine lv_iconst (v := 1) hx hb dL_may_15 (by decide) ?_
      have hP : bv_H G (bv_vw (sp_may S p0 p1).2.2) M (z.1, if (sp_may S p0 p1).1 = 0 then (sp_may S p0 p1).2.1.toInt64 else z.2) H1 := by
        rw [sq_may (by rw [hk]; decide), if_neg (by rw [hk]; decide)]; exact hP
      exact bv_iret hx hb hr hlocks hS (Nat.le_of_ble_eq_true rfl) (Nat.le_of_ble_eq_true rfl) dL_may_16 hk.symm hP
    · exact absurd hk s2_may
  · refine lv_i2l hx hb dL_may_8 rfl ?_
    refine bv_last hx hb hK hP hS dL_may_9 (fun H locs hP hS => ?_)
    refine lv_goto (tgt := 17) hx hb dL_may_10 (by decide) ?_
    refine lv_iconst (v := 0) hx hb dL_may_17 (by decide) ?_
    have hP : bv_H G (bv_vw (sp_may S p0 p1).2.2) M (z.1, if (sp_may S p0 p1).1 = 0 then (sp_may S p0 p1).2.1.toInt64 else z.2) H := by
      rw [if_pos k_1]; exact hP
    exact bv_iret hx hb hr hlocks hS (Nat.le_of_ble_eq_true rfl) (Nat.le_of_ble_eq_true rfl) dL_may_18 k_1.symm hP
theorem sq_mayAll {X : bv_X} {p0 : Int32} (h : ¬ (sp_mayAll X p0).1 = 0) : (sp_mayAll X p0).2.2 = X := by
  revert h
  unfold sp_mayAll
  (repeat' split) <;> intro h <;> first | rfl | exact absurd rfl h
theorem s2_mayAll {X : bv_X} {p0 : Int32} : ¬ (sp_mayAll X p0).1 = 2 := by
  unfold sp_mayAll
  split
  · exact show ¬ (0 : Int32) = 2 by decide
  · exact show ¬ (1 : Int32) = 2 by decide
set_option maxHeartbeats 1000000 in
set_option maxRecDepth 100000 in
theorem c_L_mayAll (l : Launch) (hlt : l.stackTraces = false) (G : bv_G) (S M : bv_X) (z : bv_Z) (n : Nat) (p0 : Int32) (hn : n ≤ 1000) (hI : bv_I n S) : bv_M l yL_mayAll wsL_mayAll ({ frames := 9, cells := 1, slots := 6, locals := 149 }) [.ref (bv_a G 0), .int p0, .ref (bv_a G 62)] G (bv_vw S) M z ((sp_mayAll S p0).1) (bv_vw (sp_mayAll S p0).2.2) M (z.1, if (sp_mayAll S p0).1 = 0 then (sp_mayAll S p0).2.1.toInt64 else z.2) := by
  refine va_MetW (cc := cL_mayAll) (maxL := 4) (ret := some .int) (hh := [(0, 9, 12, 13)]) (by decide) rfl ?_
  intro p e s m args below meth c s₁ B hml hv
  obtain ⟨rfl, hz, hP, hK, hE⟩ := hv
  have hx := B.exec
  have hb := B.bytes
  have hr := B.returns
  have hts := atoms_spec (ws := wsL_mayAll) B.pre
  have htab := vx_table (x := yL_mayAll) B (hts _ List.mem_cons_self)
  have hown : s.vm.findClass RL = some m.cls := findClass_of_methodNamed B.named
  have hlocks := B.notSynchronized
  have hS : va_S (bv_A G) s.heap s.heap [] := va_S.rf
  have hl := lv_entry ([.ref (bv_a G 0), .int p0, .ref (bv_a G 62)]) (n := 4) (Nat.le_of_ble_eq_true rfl)
  rw [lg_entry_eq]
  generalize (lg_sl ([.ref (bv_a G 0), .int p0, .ref (bv_a G 62)]) ++ List.replicate (4 - (lg_sl ([.ref (bv_a G 0), .int p0, .ref (bv_a G 62)])).length) Slot.unset).toArray = ls at hl ⊢
  have hl : lv_has ls 4 [(0, .ref (bv_a G 0)), (1, .int p0), (2, .ref (bv_a G 62))] := hl
  refine lv_aload_n hx hb dL_mayAll_0 rfl (lv_at hl 2 rfl) ?_
  refine lv_iconst (v := 0) hx hb dL_mayAll_1 (by decide) ?_
  refine lv_aload_n hx hb dL_mayAll_2 rfl (lv_at hl 0 rfl) ?_
  refine lv_iload_n hx hb dL_mayAll_3 rfl (lv_at hl 1 rfl) ?_
  refine bv_cxi (vx_runV (As := [.int p0]) (rest := [.int 0, .ref (bv_a G 62)]) ⟨hx, hb, hml, hown, hts⟩ (c_X2_mayAll l hlt G S M z n p0 hn hI) (cwV 1 hts gL_mayAll_X2_mayAll rfl rfl rfl (by decide +kernel) ⟨Nat.le_of_ble_eq_true rfl, Nat.le_of_ble_eq_true rfl⟩) (bv_preV hz hP hK hE hS (ci := 2) (bv_c0 G _ _ _) rfl rfl) rfl rfl hl.1 rfl (lv_room (Nat.le_of_ble_eq_true rfl)) dL_mayAll_4 ⟨Nat.le_of_ble_eq_true rfl, Nat.le_of_ble_eq_true rfl⟩) hS ?_ (fun H locs k_1 hP hS => ?_)
  · intro E ce q9 H1 locs1 hX hP hS h1 h2 h3
    rcases hX with ⟨rfl, hk⟩ | ⟨rfl, hk⟩
    · refine vx_catch hown [] _ _ htab (fun _ h => absurd h List.not_mem_nil) rfl (by decide) (hts (.classLink RL 13 "java/lang/IllegalArgumentException") (by decide +kernel)) (va_Nw.use rfl (hE.1 (.castable "java/lang/IllegalArgumentException" "java/lang/IllegalArgumentException") (by decide +kernel))) h1 h2 h3 ?_
      refine lv_astore_n (lv' := [(3, .ref q9), (0, .ref (bv_a G 0)), (1, .int p0), (2, .ref (bv_a G 62))]) hx hb dL_mayAll_12 rfl hl (by decide) rfl (fun ls hl => ?_)
      refine lv_iconst (v := 1) hx hb dL_mayAll_13 (by decide) ?_
      have hP : bv_H G (bv_vw (sp_mayAll S p0).2.2) M (z.1, if (sp_mayAll S p0).1 = 0 then (sp_mayAll S p0).2.1.toInt64 else z.2) H1 := by
        rw [sq_mayAll (by rw [hk]; decide), if_neg (by rw [hk]; decide)]; exact hP
      exact bv_iret hx hb hr hlocks hS (Nat.le_of_ble_eq_true rfl) (Nat.le_of_ble_eq_true rfl) dL_mayAll_14 hk.symm hP
    · exact absurd hk s2_mayAll
  · refine lv_i2l hx hb dL_mayAll_7 rfl ?_
    refine bv_last hx hb hK hP hS dL_mayAll_8 (fun H locs hP hS => ?_)
    refine lv_goto (tgt := 15) hx hb dL_mayAll_9 (by decide) ?_
    refine lv_iconst (v := 0) hx hb dL_mayAll_15 (by decide) ?_
    have hP : bv_H G (bv_vw (sp_mayAll S p0).2.2) M (z.1, if (sp_mayAll S p0).1 = 0 then (sp_mayAll S p0).2.1.toInt64 else z.2) H := by
      rw [if_pos k_1]; exact hP
    exact bv_iret hx hb hr hlocks hS (Nat.le_of_ble_eq_true rfl) (Nat.le_of_ble_eq_true rfl) dL_mayAll_16 k_1.symm hP
theorem sq_holder {X : bv_X} {p0 : Int32} (h : ¬ (sp_holder X p0).1 = 0) : (sp_holder X p0).2.2 = X := by
  revert h
  unfold sp_holder
  (repeat' split) <;> intro h <;> first | rfl | exact absurd rfl h
theorem s2_holder {X : bv_X} {p0 : Int32} : ¬ (sp_holder X p0).1 = 2 := by
  unfold sp_holder
  split
  · exact show ¬ (0 : Int32) = 2 by decide
  · exact show ¬ (1 : Int32) = 2 by decide
set_option maxHeartbeats 1000000 in
set_option maxRecDepth 100000 in
theorem c_L_holder (l : Launch) (hlt : l.stackTraces = false) (G : bv_G) (S M : bv_X) (z : bv_Z) (n : Nat) (p0 : Int32) (hn : n ≤ 1000) (hI : bv_I n S) : bv_M l yL_holder wsL_holder ({ frames := 9, cells := 1, slots := 6, locals := 146 }) [.ref (bv_a G 0), .int p0, .ref (bv_a G 62)] G (bv_vw S) M z ((sp_holder S p0).1) (bv_vw (sp_holder S p0).2.2) M (z.1, if (sp_holder S p0).1 = 0 then (sp_holder S p0).2.1.toInt64 else z.2) := by
  refine va_MetW (cc := cL_holder) (maxL := 4) (ret := some .int) (hh := [(0, 9, 12, 13)]) (by decide) rfl ?_
  intro p e s m args below meth c s₁ B hml hv
  obtain ⟨rfl, hz, hP, hK, hE⟩ := hv
  have hx := B.exec
  have hb := B.bytes
  have hr := B.returns
  have hts := atoms_spec (ws := wsL_holder) B.pre
  have htab := vx_table (x := yL_holder) B (hts _ List.mem_cons_self)
  have hown : s.vm.findClass RL = some m.cls := findClass_of_methodNamed B.named
  have hlocks := B.notSynchronized
  have hS : va_S (bv_A G) s.heap s.heap [] := va_S.rf
  have hl := lv_entry ([.ref (bv_a G 0), .int p0, .ref (bv_a G 62)]) (n := 4) (Nat.le_of_ble_eq_true rfl)
  rw [lg_entry_eq]
  generalize (lg_sl ([.ref (bv_a G 0), .int p0, .ref (bv_a G 62)]) ++ List.replicate (4 - (lg_sl ([.ref (bv_a G 0), .int p0, .ref (bv_a G 62)])).length) Slot.unset).toArray = ls at hl ⊢
  have hl : lv_has ls 4 [(0, .ref (bv_a G 0)), (1, .int p0), (2, .ref (bv_a G 62))] := hl
  refine lv_aload_n hx hb dL_holder_0 rfl (lv_at hl 2 rfl) ?_
  refine lv_iconst (v := 0) hx hb dL_holder_1 (by decide) ?_
  refine lv_aload_n hx hb dL_holder_2 rfl (lv_at hl 0 rfl) ?_
  refine lv_iload_n hx hb dL_holder_3 rfl (lv_at hl 1 rfl) ?_
  refine bv_cxi (vx_runV (As := [.int p0]) (rest := [.int 0, .ref (bv_a G 62)]) ⟨hx, hb, hml, hown, hts⟩ (c_X2_holder l hlt G S M z n p0 hn hI) (cwV 1 hts gL_holder_X2_holder rfl rfl rfl (by decide +kernel) ⟨Nat.le_of_ble_eq_true rfl, Nat.le_of_ble_eq_true rfl⟩) (bv_preV hz hP hK hE hS (ci := 2) (bv_c0 G _ _ _) rfl rfl) rfl rfl hl.1 rfl (lv_room (Nat.le_of_ble_eq_true rfl)) dL_holder_4 ⟨Nat.le_of_ble_eq_true rfl, Nat.le_of_ble_eq_true rfl⟩) hS ?_ (fun H locs k_1 hP hS => ?_)
  · intro E ce q9 H1 locs1 hX hP hS h1 h2 h3
    rcases hX with ⟨rfl, hk⟩ | ⟨rfl, hk⟩
    · refine vx_catch hown [] _ _ htab (fun _ h => absurd h List.not_mem_nil) rfl (by decide) (hts (.classLink RL 13 "java/lang/IllegalArgumentException") (by decide +kernel)) (va_Nw.use rfl (hE.1 (.castable "java/lang/IllegalArgumentException" "java/lang/IllegalArgumentException") (by decide +kernel))) h1 h2 h3 ?_
      refine lv_astore_n (lv' := [(3, .ref q9), (0, .ref (bv_a G 0)), (1, .int p0), (2, .ref (bv_a G 62))]) hx hb dL_holder_12 rfl hl (by decide) rfl (fun ls hl => ?_)
      refine lv_iconst (v := 1) hx hb dL_holder_13 (by decide) ?_
      have hP : bv_H G (bv_vw (sp_holder S p0).2.2) M (z.1, if (sp_holder S p0).1 = 0 then (sp_holder S p0).2.1.toInt64 else z.2) H1 := by
        rw [sq_holder (by rw [hk]; decide), if_neg (by rw [hk]; decide)]; exact hP
      exact bv_iret hx hb hr hlocks hS (Nat.le_of_ble_eq_true rfl) (Nat.le_of_ble_eq_true rfl) dL_holder_14 hk.symm hP
    · exact absurd hk s2_holder
  · refine lv_i2l hx hb dL_holder_7 rfl ?_
    refine bv_last hx hb hK hP hS dL_holder_8 (fun H locs hP hS => ?_)
    refine lv_goto (tgt := 15) hx hb dL_holder_9 (by decide) ?_
    refine lv_iconst (v := 0) hx hb dL_holder_15 (by decide) ?_
    have hP : bv_H G (bv_vw (sp_holder S p0).2.2) M (z.1, if (sp_holder S p0).1 = 0 then (sp_holder S p0).2.1.toInt64 else z.2) H := by
      rw [if_pos k_1]; exact hP
    exact bv_iret hx hb hr hlocks hS (Nat.le_of_ble_eq_true rfl) (Nat.le_of_ble_eq_true rfl) dL_holder_16 k_1.symm hP
theorem sq_notices {X : bv_X} {p0 : Int32} (h : ¬ (sp_notices X p0).1 = 0) : (sp_notices X p0).2.2 = X := by
  revert h
  unfold sp_notices
  (repeat' split) <;> intro h <;> first | rfl | exact absurd rfl h
theorem s2_notices {X : bv_X} {p0 : Int32} : ¬ (sp_notices X p0).1 = 2 := by
  unfold sp_notices
  split
  · exact show ¬ (0 : Int32) = 2 by decide
  · exact show ¬ (1 : Int32) = 2 by decide
set_option maxHeartbeats 1000000 in
set_option maxRecDepth 100000 in
theorem c_L_notices (l : Launch) (hlt : l.stackTraces = false) (G : bv_G) (S M : bv_X) (z : bv_Z) (n : Nat) (p0 : Int32) (hn : n ≤ 1000) (hI : bv_I n S) : bv_M l yL_notices wsL_notices ({ frames := 9, cells := 1, slots := 6, locals := 147 }) [.ref (bv_a G 0), .int p0, .ref (bv_a G 62)] G (bv_vw S) M z ((sp_notices S p0).1) (bv_vw (sp_notices S p0).2.2) M (z.1, if (sp_notices S p0).1 = 0 then (sp_notices S p0).2.1.toInt64 else z.2) := by
  refine va_MetW (cc := cL_notices) (maxL := 4) (ret := some .int) (hh := [(0, 9, 12, 13)]) (by decide) rfl ?_
  intro p e s m args below meth c s₁ B hml hv
  obtain ⟨rfl, hz, hP, hK, hE⟩ := hv
  have hx := B.exec
  have hb := B.bytes
  have hr := B.returns
  have hts := atoms_spec (ws := wsL_notices) B.pre
  have htab := vx_table (x := yL_notices) B (hts _ List.mem_cons_self)
  have hown : s.vm.findClass RL = some m.cls := findClass_of_methodNamed B.named
  have hlocks := B.notSynchronized
  have hS : va_S (bv_A G) s.heap s.heap [] := va_S.rf
  have hl := lv_entry ([.ref (bv_a G 0), .int p0, .ref (bv_a G 62)]) (n := 4) (Nat.le_of_ble_eq_true rfl)
  rw [lg_entry_eq]
  generalize (lg_sl ([.ref (bv_a G 0), .int p0, .ref (bv_a G 62)]) ++ List.replicate (4 - (lg_sl ([.ref (bv_a G 0), .int p0, .ref (bv_a G 62)])).length) Slot.unset).toArray = ls at hl ⊢
  have hl : lv_has ls 4 [(0, .ref (bv_a G 0)), (1, .int p0), (2, .ref (bv_a G 62))] := hl
  refine lv_aload_n hx hb dL_notices_0 rfl (lv_at hl 2 rfl) ?_
  refine lv_iconst (v := 0) hx hb dL_notices_1 (by decide) ?_
  refine lv_aload_n hx hb dL_notices_2 rfl (lv_at hl 0 rfl) ?_
  refine lv_iload_n hx hb dL_notices_3 rfl (lv_at hl 1 rfl) ?_
  refine bv_cxi (vx_runV (As := [.int p0]) (rest := [.int 0, .ref (bv_a G 62)]) ⟨hx, hb, hml, hown, hts⟩ (c_X2_notices l hlt G S M z n p0 hn hI) (cwV 1 hts gL_notices_X2_notices rfl rfl rfl (by decide +kernel) ⟨Nat.le_of_ble_eq_true rfl, Nat.le_of_ble_eq_true rfl⟩) (bv_preV hz hP hK hE hS (ci := 2) (bv_c0 G _ _ _) rfl rfl) rfl rfl hl.1 rfl (lv_room (Nat.le_of_ble_eq_true rfl)) dL_notices_4 ⟨Nat.le_of_ble_eq_true rfl, Nat.le_of_ble_eq_true rfl⟩) hS ?_ (fun H locs k_1 hP hS => ?_)
  · intro E ce q9 H1 locs1 hX hP hS h1 h2 h3
    rcases hX with ⟨rfl, hk⟩ | ⟨rfl, hk⟩
    · refine vx_catch hown [] _ _ htab (fun _ h => absurd h List.not_mem_nil) rfl (by decide) (hts (.classLink RL 13 "java/lang/IllegalArgumentException") (by decide +kernel)) (va_Nw.use rfl (hE.1 (.castable "java/lang/IllegalArgumentException" "java/lang/IllegalArgumentException") (by decide +kernel))) h1 h2 h3 ?_
      refine lv_astore_n (lv' := [(3, .ref q9), (0, .ref (bv_a G 0)), (1, .int p0), (2, .ref (bv_a G 62))]) hx hb dL_notices_12 rfl hl (by decide) rfl (fun ls hl => ?_)
      refine lv_iconst (v := 1) hx hb dL_notices_13 (by decide) ?_
      have hP : bv_H G (bv_vw (sp_notices S p0).2.2) M (z.1, if (sp_notices S p0).1 = 0 then (sp_notices S p0).2.1.toInt64 else z.2) H1 := by
        rw [sq_notices (by rw [hk]; decide), if_neg (by rw [hk]; decide)]; exact hP
      exact bv_iret hx hb hr hlocks hS (Nat.le_of_ble_eq_true rfl) (Nat.le_of_ble_eq_true rfl) dL_notices_14 hk.symm hP
    · exact absurd hk s2_notices
  · refine lv_i2l hx hb dL_notices_7 rfl ?_
    refine bv_last hx hb hK hP hS dL_notices_8 (fun H locs hP hS => ?_)
    refine lv_goto (tgt := 15) hx hb dL_notices_9 (by decide) ?_
    refine lv_iconst (v := 0) hx hb dL_notices_15 (by decide) ?_
    have hP : bv_H G (bv_vw (sp_notices S p0).2.2) M (z.1, if (sp_notices S p0).1 = 0 then (sp_notices S p0).2.1.toInt64 else z.2) H := by
      rw [if_pos k_1]; exact hP
    exact bv_iret hx hb hr hlocks hS (Nat.le_of_ble_eq_true rfl) (Nat.le_of_ble_eq_true rfl) dL_notices_16 k_1.symm hP
theorem sq_refusals {X : bv_X} {p0 : Int32} (h : ¬ (sp_refusals X p0).1 = 0) : (sp_refusals X p0).2.2 = X := by
  revert h
  unfold sp_refusals
  (repeat' split) <;> intro h <;> first | rfl | exact absurd rfl h
theorem s2_refusals {X : bv_X} {p0 : Int32} : ¬ (sp_refusals X p0).1 = 2 := by
  unfold sp_refusals
  split
  · exact show ¬ (0 : Int32) = 2 by decide
  · exact show ¬ (1 : Int32) = 2 by decide
set_option maxHeartbeats 1000000 in
set_option maxRecDepth 100000 in
theorem c_L_refusals (l : Launch) (hlt : l.stackTraces = false) (G : bv_G) (S M : bv_X) (z : bv_Z) (n : Nat) (p0 : Int32) (hn : n ≤ 1000) (hI : bv_I n S) : bv_M l yL_refusals wsL_refusals ({ frames := 9, cells := 1, slots := 6, locals := 145 }) [.ref (bv_a G 0), .int p0, .ref (bv_a G 62)] G (bv_vw S) M z ((sp_refusals S p0).1) (bv_vw (sp_refusals S p0).2.2) M (z.1, if (sp_refusals S p0).1 = 0 then (sp_refusals S p0).2.1.toInt64 else z.2) := by
  refine va_MetW (cc := cL_refusals) (maxL := 4) (ret := some .int) (hh := [(0, 9, 12, 13)]) (by decide) rfl ?_
  intro p e s m args below meth c s₁ B hml hv
  obtain ⟨rfl, hz, hP, hK, hE⟩ := hv
  have hx := B.exec
  have hb := B.bytes
  have hr := B.returns
  have hts := atoms_spec (ws := wsL_refusals) B.pre
  have htab := vx_table (x := yL_refusals) B (hts _ List.mem_cons_self)
  have hown : s.vm.findClass RL = some m.cls := findClass_of_methodNamed B.named
  have hlocks := B.notSynchronized
  have hS : va_S (bv_A G) s.heap s.heap [] := va_S.rf
  have hl := lv_entry ([.ref (bv_a G 0), .int p0, .ref (bv_a G 62)]) (n := 4) (Nat.le_of_ble_eq_true rfl)
  rw [lg_entry_eq]
  generalize (lg_sl ([.ref (bv_a G 0), .int p0, .ref (bv_a G 62)]) ++ List.replicate (4 - (lg_sl ([.ref (bv_a G 0), .int p0, .ref (bv_a G 62)])).length) Slot.unset).toArray = ls at hl ⊢
  have hl : lv_has ls 4 [(0, .ref (bv_a G 0)), (1, .int p0), (2, .ref (bv_a G 62))] := hl
  refine lv_aload_n hx hb dL_refusals_0 rfl (lv_at hl 2 rfl) ?_
  refine lv_iconst (v := 0) hx hb dL_refusals_1 (by decide) ?_
  refine lv_aload_n hx hb dL_refusals_2 rfl (lv_at hl 0 rfl) ?_
  refine lv_iload_n hx hb dL_refusals_3 rfl (lv_at hl 1 rfl) ?_
  refine bv_cxi (vx_runV (As := [.int p0]) (rest := [.int 0, .ref (bv_a G 62)]) ⟨hx, hb, hml, hown, hts⟩ (c_X2_refusals l hlt G S M z n p0 hn hI) (cwV 1 hts gL_refusals_X2_refusals rfl rfl rfl (by decide +kernel) ⟨Nat.le_of_ble_eq_true rfl, Nat.le_of_ble_eq_true rfl⟩) (bv_preV hz hP hK hE hS (ci := 2) (bv_c0 G _ _ _) rfl rfl) rfl rfl hl.1 rfl (lv_room (Nat.le_of_ble_eq_true rfl)) dL_refusals_4 ⟨Nat.le_of_ble_eq_true rfl, Nat.le_of_ble_eq_true rfl⟩) hS ?_ (fun H locs k_1 hP hS => ?_)
  · intro E ce q9 H1 locs1 hX hP hS h1 h2 h3
    rcases hX with ⟨rfl, hk⟩ | ⟨rfl, hk⟩
    · refine vx_catch hown [] _ _ htab (fun _ h => absurd h List.not_mem_nil) rfl (by decide) (hts (.classLink RL 13 "java/lang/IllegalArgumentException") (by decide +kernel)) (va_Nw.use rfl (hE.1 (.castable "java/lang/IllegalArgumentException" "java/lang/IllegalArgumentException") (by decide +kernel))) h1 h2 h3 ?_
      refine lv_astore_n (lv' := [(3, .ref q9), (0, .ref (bv_a G 0)), (1, .int p0), (2, .ref (bv_a G 62))]) hx hb dL_refusals_12 rfl hl (by decide) rfl (fun ls hl => ?_)
      refine lv_iconst (v := 1) hx hb dL_refusals_13 (by decide) ?_
      have hP : bv_H G (bv_vw (sp_refusals S p0).2.2) M (z.1, if (sp_refusals S p0).1 = 0 then (sp_refusals S p0).2.1.toInt64 else z.2) H1 := by
        rw [sq_refusals (by rw [hk]; decide), if_neg (by rw [hk]; decide)]; exact hP
      exact bv_iret hx hb hr hlocks hS (Nat.le_of_ble_eq_true rfl) (Nat.le_of_ble_eq_true rfl) dL_refusals_14 hk.symm hP
    · exact absurd hk s2_refusals
  · refine lv_i2l hx hb dL_refusals_7 rfl ?_
    refine bv_last hx hb hK hP hS dL_refusals_8 (fun H locs hP hS => ?_)
    refine lv_goto (tgt := 15) hx hb dL_refusals_9 (by decide) ?_
    refine lv_iconst (v := 0) hx hb dL_refusals_15 (by decide) ?_
    have hP : bv_H G (bv_vw (sp_refusals S p0).2.2) M (z.1, if (sp_refusals S p0).1 = 0 then (sp_refusals S p0).2.1.toInt64 else z.2) H := by
      rw [if_pos k_1]; exact hP
    exact bv_iret hx hb hr hlocks hS (Nat.le_of_ble_eq_true rfl) (Nat.le_of_ble_eq_true rfl) dL_refusals_16 k_1.symm hP
theorem sq_binding {X : bv_X} {p0 : Int32} (h : ¬ (sp_binding X p0).1 = 0) : (sp_binding X p0).2.2 = X := by
  revert h
  unfold sp_binding
  (repeat' split) <;> intro h <;> first | rfl | exact absurd rfl h
theorem s2_binding {X : bv_X} {p0 : Int32} : ¬ (sp_binding X p0).1 = 2 := by
  unfold sp_binding
  split
  · exact show ¬ (0 : Int32) = 2 by decide
  · exact show ¬ (1 : Int32) = 2 by decide
set_option maxHeartbeats 1000000 in
set_option maxRecDepth 100000 in
theorem c_L_binding (l : Launch) (hlt : l.stackTraces = false) (G : bv_G) (S M : bv_X) (z : bv_Z) (n : Nat) (p0 : Int32) (hn : n ≤ 1000) (hI : bv_I n S) : bv_M l yL_binding wsL_binding ({ frames := 8, cells := 1, slots := 6, locals := 125 }) [.ref (bv_a G 0), .int p0, .ref (bv_a G 62)] G (bv_vw S) M z ((sp_binding S p0).1) (bv_vw (sp_binding S p0).2.2) M (z.1, if (sp_binding S p0).1 = 0 then (sp_binding S p0).2.1.toInt64 else z.2) := by
  refine va_MetW (cc := cL_binding) (maxL := 4) (ret := some .int) (hh := [(0, 9, 12, 13)]) (by decide) rfl ?_
  intro p e s m args below meth c s₁ B hml hv
  obtain ⟨rfl, hz, hP, hK, hE⟩ := hv
  have hx := B.exec
  have hb := B.bytes
  have hr := B.returns
  have hts := atoms_spec (ws := wsL_binding) B.pre
  have htab := vx_table (x := yL_binding) B (hts _ List.mem_cons_self)
  have hown : s.vm.findClass RL = some m.cls := findClass_of_methodNamed B.named
  have hlocks := B.notSynchronized
  have hS : va_S (bv_A G) s.heap s.heap [] := va_S.rf
  have hl := lv_entry ([.ref (bv_a G 0), .int p0, .ref (bv_a G 62)]) (n := 4) (Nat.le_of_ble_eq_true rfl)
  rw [lg_entry_eq]
  generalize (lg_sl ([.ref (bv_a G 0), .int p0, .ref (bv_a G 62)]) ++ List.replicate (4 - (lg_sl ([.ref (bv_a G 0), .int p0, .ref (bv_a G 62)])).length) Slot.unset).toArray = ls at hl ⊢
  have hl : lv_has ls 4 [(0, .ref (bv_a G 0)), (1, .int p0), (2, .ref (bv_a G 62))] := hl
  refine lv_aload_n hx hb dL_binding_0 rfl (lv_at hl 2 rfl) ?_
  refine lv_iconst (v := 0) hx hb dL_binding_1 (by decide) ?_
  refine lv_aload_n hx hb dL_binding_2 rfl (lv_at hl 0 rfl) ?_
  refine lv_iload_n hx hb dL_binding_3 rfl (lv_at hl 1 rfl) ?_
  refine bv_cxi (vx_runV (As := [.int p0]) (rest := [.int 0, .ref (bv_a G 62)]) ⟨hx, hb, hml, hown, hts⟩ (c_X2_binding l hlt G S M z n p0 hn hI) (cwV 1 hts gL_binding_X2_binding rfl rfl rfl (by decide +kernel) ⟨Nat.le_of_ble_eq_true rfl, Nat.le_of_ble_eq_true rfl⟩) (bv_preV hz hP hK hE hS (ci := 2) (bv_c0 G _ _ _) rfl rfl) rfl rfl hl.1 rfl (lv_room (Nat.le_of_ble_eq_true rfl)) dL_binding_4 ⟨Nat.le_of_ble_eq_true rfl, Nat.le_of_ble_eq_true rfl⟩) hS ?_ (fun H locs k_1 hP hS => ?_)
  · intro E ce q9 H1 locs1 hX hP hS h1 h2 h3
    rcases hX with ⟨rfl, hk⟩ | ⟨rfl, hk⟩
    · refine vx_catch hown [] _ _ htab (fun _ h => absurd h List.not_mem_nil) rfl (by decide) (hts (.classLink RL 13 "java/lang/IllegalArgumentException") (by decide +kernel)) (va_Nw.use rfl (hE.1 (.castable "java/lang/IllegalArgumentException" "java/lang/IllegalArgumentException") (by decide +kernel))) h1 h2 h3 ?_
      refine lv_astore_n (lv' := [(3, .ref q9), (0, .ref (bv_a G 0)), (1, .int p0), (2, .ref (bv_a G 62))]) hx hb dL_binding_12 rfl hl (by decide) rfl (fun ls hl => ?_)
      refine lv_iconst (v := 1) hx hb dL_binding_13 (by decide) ?_
      have hP : bv_H G (bv_vw (sp_binding S p0).2.2) M (z.1, if (sp_binding S p0).1 = 0 then (sp_binding S p0).2.1.toInt64 else z.2) H1 := by
        rw [sq_binding (by rw [hk]; decide), if_neg (by rw [hk]; decide)]; exact hP
      exact bv_iret hx hb hr hlocks hS (Nat.le_of_ble_eq_true rfl) (Nat.le_of_ble_eq_true rfl) dL_binding_14 hk.symm hP
    · exact absurd hk s2_binding
  · refine lv_i2l hx hb dL_binding_7 rfl ?_
    refine bv_last hx hb hK hP hS dL_binding_8 (fun H locs hP hS => ?_)
    refine lv_goto (tgt := 15) hx hb dL_binding_9 (by decide) ?_
    refine lv_iconst (v := 0) hx hb dL_binding_15 (by decide) ?_
    have hP : bv_H G (bv_vw (sp_binding S p0).2.2) M (z.1, if (sp_binding S p0).1 = 0 then (sp_binding S p0).2.1.toInt64 else z.2) H := by
      rw [if_pos k_1]; exact hP
    exact bv_iret hx hb hr hlocks hS (Nat.le_of_ble_eq_true rfl) (Nat.le_of_ble_eq_true rfl) dL_binding_16 k_1.symm hP
