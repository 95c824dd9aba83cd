/-! ===== the law's roads ===== -/
theorem bv_lcmp {p : Program} {l : Launch} {e : Env} {R : Room} {s : State} {m : MethodId} {args : Array Value} {below : List Frame} {meth : Method} {c : Code} {H : Heap} {locs : List Loc} {cells slots : Nat} {Q : State → Prop} {cc : ByteArray} {pc : Nat} {ls : Array Slot} {rest : List Value} (hexec : p.tables.exec = Jvm.exec) (hb : c.code = cc) {x y : Int64} (hxy : x = y) (hdg : decode cc pc = .ok (.lcmp, 1))
    (k : W p l e R s m args below meth c H locs cells slots Q (F0 m (pc + 1) ls (.int 0 :: rest))) : W p l e R s m args below meth c H locs cells slots Q (F0 m pc ls (.long y :: .long x :: rest)) := by
  subst hxy
  intro T hT X
  obtain ⟨t, a, b⟩ := k T hT X
  refine ⟨t, ?_, b⟩
  jvm_step X.here [X.here.top, hexec, hb, hdg, Int64.lt_irrefl, gt_iff_lt]
  exact a
theorem bv_bool {p : Program} {l : Launch} {e : Env} {R : Room} {s : State} {m : MethodId} {args : Array Value} {below : List Frame} {meth : Method} {c : Code} {H : Heap} {locs : List Loc} {cells slots : Nat} {Q : State → Prop} {cc : ByteArray} {pc : Nat} {ls : Array Slot} {rest : List Value} {x : Int32} {w : Int64} (h01 : x = 0 ∨ x = 1) {tgt1 tgt2 : Nat} (hw : w = x.toInt64) {o1 o2 : Int} (hexec : p.tables.exec = Jvm.exec) (hb : c.code = cc) (h1 : decode cc pc = .ok (.ifCond .eq o1, 3)) (h2 : decode cc (pc + 3) = .ok (.lconst 1, 1)) (h3 : decode cc (pc + 3 + 1) = .ok (.goto o2, 3)) (h4 : decode cc tgt1 = .ok (.lconst 0, 1)) (e1 : (pc : Int) + o1 = (tgt1 : Int)) (e2 : ((pc + 3 + 1 : Nat) : Int) + o2 = (tgt2 : Int)) (e3 : tgt1 + 1 = tgt2)
    (k : W p l e R s m args below meth c H locs cells slots Q (F0 m tgt2 ls (.long w :: rest))) : W p l e R s m args below meth c H locs cells slots Q (F0 m pc ls (.int x :: rest)) := by
  subst e3
  refine lv_if_eq (tgt := tgt1) hexec hb h1 e1 (fun c_1 => ?_) (fun c_1 => ?_)
  · exact lv_lconst (v := w) hexec hb h4 (by rw [hw, c_1]; rfl) k
  · refine lv_lconst (v := w) hexec hb h2 (by rw [hw, h01.resolve_left c_1]; rfl) ?_
    exact lv_goto (tgt := tgt1 + 1) hexec hb h3 e2 k
set_option maxHeartbeats 1000000 in
set_option maxRecDepth 100000 in
theorem bv_case_pass {p : Program} {e : Env} {s : State} {m : MethodId} {below : List Frame} {meth : Method} {c : Code} {Q : State → Prop} (l : Launch) (hlt : l.stackTraces = false) {b L t : Nat} {xs : Nat → Int32} {H : Heap} {locs : List Loc} {ls : Array Slot} {cells slots : Nat} (C0 : lw_At p s m meth c b L xs) (G : bv_G) (hz : bv_n G = s.heap.size) (hK : bv_K G s) (hE : bv_En G s s.heap) (X : bv_X) (z : bv_Z) (hI : bv_I t X) (ht : t ≤ 1000) (h5 : 5 * t + 5 ≤ L) (hL : L ≤ 2560) (hc : cells + 6 ≤ 640723) (hs : slots + 36 ≤ 7173936) (hP : bv_H G (bv_vw X) X z H) (hS : va_S (bv_A G) s.heap H locs) (hl : lv_has ls 7 [(4, .int (nI (5 * t))), (0, .ref b), (1, .ref (bv_a G 0)), (2, .ref (bv_a G 43)), (3, .ref (bv_a G 62))])
    (kk : ∀ (X' : bv_X) (z' : bv_Z) (H : Heap) (locs : List Loc) (ls : Array Slot), bv_I (t + 1) X' → bv_H G (bv_vw X') X' z' H → va_S (bv_A G) s.heap H locs → lv_has ls 7 [(4, .int (nI (5 * t))), (0, .ref b), (1, .ref (bv_a G 0)), (2, .ref (bv_a G 43)), (3, .ref (bv_a G 62))] → W p l e room_1 s m #[Value.ref b] below meth c H locs (cells + 6) (slots + 36) Q (F0 m 1378 ls [])) : W p l e room_1 s m #[Value.ref b] below meth c H locs cells slots Q (F0 m 124 ls []) := by
  obtain ⟨hx, hb, hr, hml, hown, hts, hX, hbl, hlocks, hgv⟩ := C0
  have hts : ∀ w ∈ wsL_law, w.before #[Value.ref b] s = true := fun w h => hts w (wsL_law_in w h)
  have hown : s.vm.findClass RL = some m.cls := hown
  have hbA : ¬ bv_A G b := by unfold bv_A; rw [hz]; exact Nat.not_le.mpr hbl
  have hz9 : bv_n G ≤ s.heap.size := Nat.le_of_eq hz
  have hv1 : vp_in (nI (5 * t) + 1) L := by rw [show (1 : Int32) = nI 1 from rfl, nI_add]; exact vp_in_nI (by omega) (by omega)
  have hI9 : bv_I (t + 1) (sp_pass X (xs (nI (5 * t) + 1).toNatClampNeg)).2.2 := bv_I_pass hI _
  have fin : ∀ (H : Heap) (locs : List Loc) (ls : Array Slot) (z9 : bv_Z), bv_I (t + 1) (sp_pass X (xs (nI (5 * t) + 1).toNatClampNeg)).2.2 → bv_H G (bv_vw (sp_pass X (xs (nI (5 * t) + 1).toNatClampNeg)).2.2) (sp_pass X (xs (nI (5 * t) + 1).toNatClampNeg)).2.2 z9 H → va_S (bv_A G) s.heap H locs → lv_has ls 7 [(4, .int (nI (5 * t))), (0, .ref b), (1, .ref (bv_a G 0)), (2, .ref (bv_a G 43)), (3, .ref (bv_a G 62))] → W p l e room_1 s m #[Value.ref b] below meth c H locs (cells + 2 + 0 + 0) (slots + 12 + 0 + 0) Q (F0 m 1378 ls []) := fun H locs ls z9 h1 h2 h3 h4 => W.widen (k := cells + 6) (n := slots + 36) (by omega) (by omega) (kk _ z9 H locs ls h1 h2 h3 h4)
  refine lv_aload_n hx hb dL_law_124 rfl (lv_at hl 2 rfl) ?_
  refine lv_aload_n hx hb dL_law_125 rfl (lv_at hl 1 rfl) ?_
  refine lv_iload hx hb dL_law_126 (lv_at hl 0 rfl) ?_
  refine lv_iconst (v := 1) hx hb dL_law_128 (by decide) ?_
  refine lv_iadd hx hb dL_law_129 ?_
  refine va_sld hx hb hX hbl hbA hS hv1 dL_law_130 ?_
  refine lv_aload_n hx hb dL_law_131 rfl (lv_at hl 4 rfl) ?_
  refine bv_ci (vx_runSW (As := [.ref (bv_a G 0), .int (xs (nI (5 * t) + 1).toNatClampNeg), .ref (bv_a G 62)]) (rest := []) ⟨hx, hb, hml, hown, hts⟩ (c_L_pass l hlt G X X z t (xs (nI (5 * t) + 1).toNatClampNeg) ht hI) (vx_cwSW 3 hts gL_law_L_pass rfl rfl rfl (by decide +kernel) ⟨Nat.le_of_ble_eq_true rfl, Nat.le_of_ble_eq_true rfl⟩) (bv_preS hz9 hP hK hE hS) rfl rfl hl.1 rfl (lv_room (Nat.le_of_ble_eq_true rfl)) dL_law_132 ⟨show cells + 2 ≤ 640723 by omega, show slots + 12 ≤ 7173936 by omega⟩) hS (fun H locs hP hS => ?_)
  refine lv_istore (lv' := [(5, .int (sp_pass X (xs (nI (5 * t) + 1).toNatClampNeg)).1), (4, .int (nI (5 * t))), (0, .ref b), (1, .ref (bv_a G 0)), (2, .ref (bv_a G 43)), (3, .ref (bv_a G 62))]) hx hb dL_law_135 hl (by decide) rfl (fun ls hl => ?_)
  refine lv_aload_n hx hb dL_law_137 rfl (lv_at hl 4 rfl) ?_
  refine lv_aload_n hx hb dL_law_138 rfl (lv_at hl 2 rfl) ?_
  refine lv_iload hx hb dL_law_139 (lv_at hl 1 rfl) ?_
  refine lv_iconst (v := 1) hx hb dL_law_141 (by decide) ?_
  refine lv_iadd hx hb dL_law_142 ?_
  refine va_sld hx hb hX hbl hbA hS hv1 dL_law_143 ?_
  refine bv_ci (va_runV (As := [.int (xs (nI (5 * t) + 1).toNatClampNeg)]) (rest := []) ⟨hx, hb, hml, hown, hts⟩ (c_X3_pass l G (bv_vw (sp_pass X (xs (nI (5 * t) + 1).toNatClampNeg)).2.2) X (z.1, if (sp_pass X (xs (nI (5 * t) + 1).toNatClampNeg)).1 = 0 then (sp_pass X (xs (nI (5 * t) + 1).toNatClampNeg)).2.1.toInt64 else z.2) t (xs (nI (5 * t) + 1).toNatClampNeg) ht hI) (cwV 1 hts gL_law_X3_pass rfl rfl rfl (by decide +kernel) ⟨Nat.le_of_ble_eq_true rfl, Nat.le_of_ble_eq_true rfl⟩) (bv_preV hz9 hP hK hE hS (ci := 3) (bv_c43 G _ _ _) rfl rfl) rfl rfl hl.1 rfl (lv_room (Nat.le_of_ble_eq_true rfl)) dL_law_144 ⟨show cells + 2 + 0 ≤ 640723 by omega, show slots + 12 + 0 ≤ 7173936 by omega⟩) hS (fun H locs hP hS => ?_)
  refine lv_istore (lv' := [(6, .int (sp_pass X (xs (nI (5 * t) + 1).toNatClampNeg)).2.1), (5, .int (sp_pass X (xs (nI (5 * t) + 1).toNatClampNeg)).1), (4, .int (nI (5 * t))), (0, .ref b), (1, .ref (bv_a G 0)), (2, .ref (bv_a G 43)), (3, .ref (bv_a G 62))]) hx hb dL_law_147 hl (by decide) rfl (fun ls hl => ?_)
  refine lv_aload_n hx hb dL_law_149 rfl (lv_at hl 5 rfl) ?_
  refine bv_ci (va_runV (As := []) (rest := []) ⟨hx, hb, hml, hown, hts⟩ (c_X3_thrown l G (bv_vw (sp_pass X (xs (nI (5 * t) + 1).toNatClampNeg)).2.2) (sp_pass X (xs (nI (5 * t) + 1).toNatClampNeg)).2.2 ((sp_pass X (xs (nI (5 * t) + 1).toNatClampNeg)).1, ((z.1, if (sp_pass X (xs (nI (5 * t) + 1).toNatClampNeg)).1 = 0 then (sp_pass X (xs (nI (5 * t) + 1).toNatClampNeg)).2.1.toInt64 else z.2)).2)) (cwV 0 hts gL_law_X3_thrown rfl rfl rfl (by decide +kernel) ⟨Nat.le_of_ble_eq_true rfl, Nat.le_of_ble_eq_true rfl⟩) (bv_preV hz9 hP hK hE hS (ci := 3) (bv_c43 G _ _ _) rfl rfl) rfl rfl hl.1 rfl (lv_room (Nat.le_of_ble_eq_true rfl)) dL_law_150 ⟨show cells + 2 + 0 + 0 ≤ 640723 by omega, show slots + 12 + 0 + 0 ≤ 7173936 by omega⟩) hS (fun H locs hP hS => ?_)
  refine lv_iload hx hb dL_law_153 (lv_at hl 1 rfl) ?_
  refine lv_icmp_eq (tgt := 160) hx hb dL_law_155 (by decide) (fun c_1 => ?_) (fun c_1 => absurd rfl c_1)
  refine lv_iload hx hb dL_law_160 (lv_at hl 1 rfl) ?_
  refine lv_if_ne (tgt := 177) hx hb dL_law_162 (by decide) (fun c_2 => ?_) (fun c_2 => ?_)
  · refine lv_goto (tgt := 1378) hx hb dL_law_177 (by decide) ?_
    exact fin  H locs ls _ hI9 hP hS (lv_sub hl [2, 3, 4, 5, 6] rfl)
  · skip
    refine lv_aload_n hx hb dL_law_165 rfl (lv_at hl 6 rfl) ?_
    refine lv_iconst (v := 0) hx hb dL_law_166 (by decide) ?_
    refine va_lald hx hb hK.2 hP 62 3 (bv_c62 G _ _ _) rfl (show vp_in (0 : Int32) 1 by unfold vp_in; decide) dL_law_167 ?_
    refine lv_iload hx hb dL_law_168 (lv_at hl 0 rfl) ?_
    refine lv_i2l hx hb dL_law_170 rfl ?_
    refine bv_lcmp hx hb (show (if (sp_pass X (xs (nI (5 * t) + 1).toNatClampNeg)).1 = 0 then (sp_pass X (xs (nI (5 * t) + 1).toNatClampNeg)).2.1.toInt64 else z.2) = _ by rw [if_pos c_2]) dL_law_171 ?_
    refine lv_if_eq (tgt := 177) hx hb dL_law_172 (by decide) (fun c_9 => ?_) (fun c_9 => absurd rfl c_9)
    refine lv_goto (tgt := 1378) hx hb dL_law_177 (by decide) ?_
    exact fin H locs ls _ hI9 hP hS (lv_sub hl [2, 3, 4, 5, 6] rfl)
set_option maxHeartbeats 1000000 in
set_option maxRecDepth 100000 in
theorem bv_case_rent {p : Program} {e : Env} {s : State} {m : MethodId} {below : List Frame} {meth : Method} {c : Code} {Q : State → Prop} (l : Launch) (hlt : l.stackTraces = false) {b L t : Nat} {xs : Nat → Int32} {H : Heap} {locs : List Loc} {ls : Array Slot} {cells slots : Nat} (C0 : lw_At p s m meth c b L xs) (G : bv_G) (hz : bv_n G = s.heap.size) (hK : bv_K G s) (hE : bv_En G s s.heap) (X : bv_X) (z : bv_Z) (hI : bv_I t X) (ht : t ≤ 1000) (h5 : 5 * t + 5 ≤ L) (hL : L ≤ 2560) (hc : cells + 6 ≤ 640723) (hs : slots + 36 ≤ 7173936) (hP : bv_H G (bv_vw X) X z H) (hS : va_S (bv_A G) s.heap H locs) (hl : lv_has ls 7 [(4, .int (nI (5 * t))), (0, .ref b), (1, .ref (bv_a G 0)), (2, .ref (bv_a G 43)), (3, .ref (bv_a G 62))])
    (kk : ∀ (X' : bv_X) (z' : bv_Z) (H : Heap) (locs : List Loc) (ls : Array Slot), bv_I (t + 1) X' → bv_H G (bv_vw X') X' z' H → va_S (bv_A G) s.heap H locs → lv_has ls 7 [(4, .int (nI (5 * t))), (0, .ref b), (1, .ref (bv_a G 0)), (2, .ref (bv_a G 43)), (3, .ref (bv_a G 62))] → W p l e room_1 s m #[Value.ref b] below meth c H locs (cells + 6) (slots + 36) Q (F0 m 1378 ls [])) : W p l e room_1 s m #[Value.ref b] below meth c H locs cells slots Q (F0 m 180 ls []) := by
  obtain ⟨hx, hb, hr, hml, hown, hts, hX, hbl, hlocks, hgv⟩ := C0
  have hts : ∀ w ∈ wsL_law, w.before #[Value.ref b] s = true := fun w h => hts w (wsL_law_in w h)
  have hown : s.vm.findClass RL = some m.cls := hown
  have hbA : ¬ bv_A G b := by unfold bv_A; rw [hz]; exact Nat.not_le.mpr hbl
  have hz9 : bv_n G ≤ s.heap.size := Nat.le_of_eq hz
  have hv1 : vp_in (nI (5 * t) + 1) L := by rw [show (1 : Int32) = nI 1 from rfl, nI_add]; exact vp_in_nI (by omega) (by omega)
  have hv2 : vp_in (nI (5 * t) + 2) L := by rw [show (2 : Int32) = nI 2 from rfl, nI_add]; exact vp_in_nI (by omega) (by omega)
  have hv3 : vp_in (nI (5 * t) + 3) L := by rw [show (3 : Int32) = nI 3 from rfl, nI_add]; exact vp_in_nI (by omega) (by omega)
  have hI9 : bv_I (t + 1) (sp_rent X (xs (nI (5 * t) + 1).toNatClampNeg) (xs (nI (5 * t) + 2).toNatClampNeg) (xs (nI (5 * t) + 3).toNatClampNeg)).2.2 := bv_I_rent hI _ _ _
  have fin : ∀ (H : Heap) (locs : List Loc) (ls : Array Slot) (z9 : bv_Z), bv_I (t + 1) (sp_rent X (xs (nI (5 * t) + 1).toNatClampNeg) (xs (nI (5 * t) + 2).toNatClampNeg) (xs (nI (5 * t) + 3).toNatClampNeg)).2.2 → bv_H G (bv_vw (sp_rent X (xs (nI (5 * t) + 1).toNatClampNeg) (xs (nI (5 * t) + 2).toNatClampNeg) (xs (nI (5 * t) + 3).toNatClampNeg)).2.2) (sp_rent X (xs (nI (5 * t) + 1).toNatClampNeg) (xs (nI (5 * t) + 2).toNatClampNeg) (xs (nI (5 * t) + 3).toNatClampNeg)).2.2 z9 H → va_S (bv_A G) s.heap H locs → lv_has ls 7 [(4, .int (nI (5 * t))), (0, .ref b), (1, .ref (bv_a G 0)), (2, .ref (bv_a G 43)), (3, .ref (bv_a G 62))] → W p l e room_1 s m #[Value.ref b] below meth c H locs (cells + 4 + 0 + 0) (slots + 24 + 0 + 0) Q (F0 m 1378 ls []) := fun H locs ls z9 h1 h2 h3 h4 => W.widen (k := cells + 6) (n := slots + 36) (by omega) (by omega) (kk _ z9 H locs ls h1 h2 h3 h4)
  refine lv_aload_n hx hb dL_law_180 rfl (lv_at hl 2 rfl) ?_
  refine lv_aload_n hx hb dL_law_181 rfl (lv_at hl 1 rfl) ?_
  refine lv_iload hx hb dL_law_182 (lv_at hl 0 rfl) ?_
  refine lv_iconst (v := 1) hx hb dL_law_184 (by decide) ?_
  refine lv_iadd hx hb dL_law_185 ?_
  refine va_sld hx hb hX hbl hbA hS hv1 dL_law_186 ?_
  refine lv_aload_n hx hb dL_law_187 rfl (lv_at hl 1 rfl) ?_
  refine lv_iload hx hb dL_law_188 (lv_at hl 0 rfl) ?_
  refine lv_iconst (v := 2) hx hb dL_law_190 (by decide) ?_
  refine lv_iadd hx hb dL_law_191 ?_
  refine va_sld hx hb hX hbl hbA hS hv2 dL_law_192 ?_
  refine lv_aload_n hx hb dL_law_193 rfl (lv_at hl 1 rfl) ?_
  refine lv_iload hx hb dL_law_194 (lv_at hl 0 rfl) ?_
  refine lv_iconst (v := 3) hx hb dL_law_196 (by decide) ?_
  refine lv_iadd hx hb dL_law_197 ?_
  refine va_sld hx hb hX hbl hbA hS hv3 dL_law_198 ?_
  refine lv_aload_n hx hb dL_law_199 rfl (lv_at hl 4 rfl) ?_
  refine bv_ci (vx_runSW (As := [.ref (bv_a G 0), .int (xs (nI (5 * t) + 1).toNatClampNeg), .int (xs (nI (5 * t) + 2).toNatClampNeg), .int (xs (nI (5 * t) + 3).toNatClampNeg), .ref (bv_a G 62)]) (rest := []) ⟨hx, hb, hml, hown, hts⟩ (c_L_rent l hlt G X X z t (xs (nI (5 * t) + 1).toNatClampNeg) (xs (nI (5 * t) + 2).toNatClampNeg) (xs (nI (5 * t) + 3).toNatClampNeg) ht hI) (vx_cwSW 5 hts gL_law_L_rent rfl rfl rfl (by decide +kernel) ⟨Nat.le_of_ble_eq_true rfl, Nat.le_of_ble_eq_true rfl⟩) (bv_preS hz9 hP hK hE hS) rfl rfl hl.1 rfl (lv_room (Nat.le_of_ble_eq_true rfl)) dL_law_200 ⟨show cells + 4 ≤ 640723 by omega, show slots + 24 ≤ 7173936 by omega⟩) hS (fun H locs hP hS => ?_)
  refine lv_istore (lv' := [(5, .int (sp_rent X (xs (nI (5 * t) + 1).toNatClampNeg) (xs (nI (5 * t) + 2).toNatClampNeg) (xs (nI (5 * t) + 3).toNatClampNeg)).1), (4, .int (nI (5 * t))), (0, .ref b), (1, .ref (bv_a G 0)), (2, .ref (bv_a G 43)), (3, .ref (bv_a G 62))]) hx hb dL_law_203 hl (by decide) rfl (fun ls hl => ?_)
  refine lv_aload_n hx hb dL_law_205 rfl (lv_at hl 4 rfl) ?_
  refine lv_aload_n hx hb dL_law_206 rfl (lv_at hl 2 rfl) ?_
  refine lv_iload hx hb dL_law_207 (lv_at hl 1 rfl) ?_
  refine lv_iconst (v := 1) hx hb dL_law_209 (by decide) ?_
  refine lv_iadd hx hb dL_law_210 ?_
  refine va_sld hx hb hX hbl hbA hS hv1 dL_law_211 ?_
  refine lv_aload_n hx hb dL_law_212 rfl (lv_at hl 2 rfl) ?_
  refine lv_iload hx hb dL_law_213 (lv_at hl 1 rfl) ?_
  refine lv_iconst (v := 2) hx hb dL_law_215 (by decide) ?_
  refine lv_iadd hx hb dL_law_216 ?_
  refine va_sld hx hb hX hbl hbA hS hv2 dL_law_217 ?_
  refine lv_aload_n hx hb dL_law_218 rfl (lv_at hl 2 rfl) ?_
  refine lv_iload hx hb dL_law_219 (lv_at hl 1 rfl) ?_
  refine lv_iconst (v := 3) hx hb dL_law_221 (by decide) ?_
  refine lv_iadd hx hb dL_law_222 ?_
  refine va_sld hx hb hX hbl hbA hS hv3 dL_law_223 ?_
  refine bv_ci (va_runV (As := [.int (xs (nI (5 * t) + 1).toNatClampNeg), .int (xs (nI (5 * t) + 2).toNatClampNeg), .int (xs (nI (5 * t) + 3).toNatClampNeg)]) (rest := []) ⟨hx, hb, hml, hown, hts⟩ (c_X3_rent l G (bv_vw (sp_rent X (xs (nI (5 * t) + 1).toNatClampNeg) (xs (nI (5 * t) + 2).toNatClampNeg) (xs (nI (5 * t) + 3).toNatClampNeg)).2.2) X (z.1, if (sp_rent X (xs (nI (5 * t) + 1).toNatClampNeg) (xs (nI (5 * t) + 2).toNatClampNeg) (xs (nI (5 * t) + 3).toNatClampNeg)).1 = 0 then (sp_rent X (xs (nI (5 * t) + 1).toNatClampNeg) (xs (nI (5 * t) + 2).toNatClampNeg) (xs (nI (5 * t) + 3).toNatClampNeg)).2.1.toInt64 else z.2) t (xs (nI (5 * t) + 1).toNatClampNeg) (xs (nI (5 * t) + 2).toNatClampNeg) (xs (nI (5 * t) + 3).toNatClampNeg) ht hI) (cwV 3 hts gL_law_X3_rent rfl rfl rfl (by decide +kernel) ⟨Nat.le_of_ble_eq_true rfl, Nat.le_of_ble_eq_true rfl⟩) (bv_preV hz9 hP hK hE hS (ci := 3) (bv_c43 G _ _ _) rfl rfl) rfl rfl hl.1 rfl (lv_room (Nat.le_of_ble_eq_true rfl)) dL_law_224 ⟨show cells + 4 + 0 ≤ 640723 by omega, show slots + 24 + 0 ≤ 7173936 by omega⟩) hS (fun H locs hP hS => ?_)
  refine lv_istore (lv' := [(6, .int (sp_rent X (xs (nI (5 * t) + 1).toNatClampNeg) (xs (nI (5 * t) + 2).toNatClampNeg) (xs (nI (5 * t) + 3).toNatClampNeg)).2.1), (5, .int (sp_rent X (xs (nI (5 * t) + 1).toNatClampNeg) (xs (nI (5 * t) + 2).toNatClampNeg) (xs (nI (5 * t) + 3).toNatClampNeg)).1), (4, .int (nI (5 * t))), (0, .ref b), (1, .ref (bv_a G 0)), (2, .ref (bv_a G 43)), (3, .ref (bv_a G 62))]) hx hb dL_law_227 hl (by decide) rfl (fun ls hl => ?_)
  refine lv_aload_n hx hb dL_law_229 rfl (lv_at hl 5 rfl) ?_
  refine bv_ci (va_runV (As := []) (rest := []) ⟨hx, hb, hml, hown, hts⟩ (c_X3_thrown l G (bv_vw (sp_rent X (xs (nI (5 * t) + 1).toNatClampNeg) (xs (nI (5 * t) + 2).toNatClampNeg) (xs (nI (5 * t) + 3).toNatClampNeg)).2.2) (sp_rent X (xs (nI (5 * t) + 1).toNatClampNeg) (xs (nI (5 * t) + 2).toNatClampNeg) (xs (nI (5 * t) + 3).toNatClampNeg)).2.2 ((sp_rent X (xs (nI (5 * t) + 1).toNatClampNeg) (xs (nI (5 * t) + 2).toNatClampNeg) (xs (nI (5 * t) + 3).toNatClampNeg)).1, ((z.1, if (sp_rent X (xs (nI (5 * t) + 1).toNatClampNeg) (xs (nI (5 * t) + 2).toNatClampNeg) (xs (nI (5 * t) + 3).toNatClampNeg)).1 = 0 then (sp_rent X (xs (nI (5 * t) + 1).toNatClampNeg) (xs (nI (5 * t) + 2).toNatClampNeg) (xs (nI (5 * t) + 3).toNatClampNeg)).2.1.toInt64 else z.2)).2)) (cwV 0 hts gL_law_X3_thrown rfl rfl rfl (by decide +kernel) ⟨Nat.le_of_ble_eq_true rfl, Nat.le_of_ble_eq_true rfl⟩) (bv_preV hz9 hP hK hE hS (ci := 3) (bv_c43 G _ _ _) rfl rfl) rfl rfl hl.1 rfl (lv_room (Nat.le_of_ble_eq_true rfl)) dL_law_230 ⟨show cells + 4 + 0 + 0 ≤ 640723 by omega, show slots + 24 + 0 + 0 ≤ 7173936 by omega⟩) hS (fun H locs hP hS => ?_)
  refine lv_iload hx hb dL_law_233 (lv_at hl 1 rfl) ?_
  refine lv_icmp_eq (tgt := 240) hx hb dL_law_235 (by decide) (fun c_1 => ?_) (fun c_1 => absurd rfl c_1)
  refine lv_iload hx hb dL_law_240 (lv_at hl 1 rfl) ?_
  refine lv_if_ne (tgt := 257) hx hb dL_law_242 (by decide) (fun c_2 => ?_) (fun c_2 => ?_)
  · refine lv_goto (tgt := 1378) hx hb dL_law_257 (by decide) ?_
    exact fin  H locs ls _ hI9 hP hS (lv_sub hl [2, 3, 4, 5, 6] rfl)
  · skip
    refine lv_aload_n hx hb dL_law_245 rfl (lv_at hl 6 rfl) ?_
    refine lv_iconst (v := 0) hx hb dL_law_246 (by decide) ?_
    refine va_lald hx hb hK.2 hP 62 3 (bv_c62 G _ _ _) rfl (show vp_in (0 : Int32) 1 by unfold vp_in; decide) dL_law_247 ?_
    refine lv_iload hx hb dL_law_248 (lv_at hl 0 rfl) ?_
    refine lv_i2l hx hb dL_law_250 rfl ?_
    refine bv_lcmp hx hb (show (if (sp_rent X (xs (nI (5 * t) + 1).toNatClampNeg) (xs (nI (5 * t) + 2).toNatClampNeg) (xs (nI (5 * t) + 3).toNatClampNeg)).1 = 0 then (sp_rent X (xs (nI (5 * t) + 1).toNatClampNeg) (xs (nI (5 * t) + 2).toNatClampNeg) (xs (nI (5 * t) + 3).toNatClampNeg)).2.1.toInt64 else z.2) = _ by rw [if_pos c_2]) dL_law_251 ?_
    refine lv_if_eq (tgt := 257) hx hb dL_law_252 (by decide) (fun c_9 => ?_) (fun c_9 => absurd rfl c_9)
    refine lv_goto (tgt := 1378) hx hb dL_law_257 (by decide) ?_
    exact fin H locs ls _ hI9 hP hS (lv_sub hl [2, 3, 4, 5, 6] rfl)
set_option maxHeartbeats 1000000 in
set_option maxRecDepth 100000 in
theorem bv_case_extend {p : Program} {e : Env} {s : State} {m : MethodId} {below : List Frame} {meth : Method} {c : Code} {Q : State → Prop} (l : Launch) (hlt : l.stackTraces = false) {b L t : Nat} {xs : Nat → Int32} {H : Heap} {locs : List Loc} {ls : Array Slot} {cells slots : Nat} (C0 : lw_At p s m meth c b L xs) (G : bv_G) (hz : bv_n G = s.heap.size) (hK : bv_K G s) (hE : bv_En G s s.heap) (X : bv_X) (z : bv_Z) (hI : bv_I t X) (ht : t ≤ 1000) (h5 : 5 * t + 5 ≤ L) (hL : L ≤ 2560) (hc : cells + 6 ≤ 640723) (hs : slots + 36 ≤ 7173936) (hP : bv_H G (bv_vw X) X z H) (hS : va_S (bv_A G) s.heap H locs) (hl : lv_has ls 7 [(4, .int (nI (5 * t))), (0, .ref b), (1, .ref (bv_a G 0)), (2, .ref (bv_a G 43)), (3, .ref (bv_a G 62))])
    (kk : ∀ (X' : bv_X) (z' : bv_Z) (H : Heap) (locs : List Loc) (ls : Array Slot), bv_I (t + 1) X' → bv_H G (bv_vw X') X' z' H → va_S (bv_A G) s.heap H locs → lv_has ls 7 [(4, .int (nI (5 * t))), (0, .ref b), (1, .ref (bv_a G 0)), (2, .ref (bv_a G 43)), (3, .ref (bv_a G 62))] → W p l e room_1 s m #[Value.ref b] below meth c H locs (cells + 6) (slots + 36) Q (F0 m 1378 ls [])) : W p l e room_1 s m #[Value.ref b] below meth c H locs cells slots Q (F0 m 260 ls []) := by
  obtain ⟨hx, hb, hr, hml, hown, hts, hX, hbl, hlocks, hgv⟩ := C0
  have hts : ∀ w ∈ wsL_law, w.before #[Value.ref b] s = true := fun w h => hts w (wsL_law_in w h)
  have hown : s.vm.findClass RL = some m.cls := hown
  have hbA : ¬ bv_A G b := by unfold bv_A; rw [hz]; exact Nat.not_le.mpr hbl
  have hz9 : bv_n G ≤ s.heap.size := Nat.le_of_eq hz
  have hv1 : vp_in (nI (5 * t) + 1) L := by rw [show (1 : Int32) = nI 1 from rfl, nI_add]; exact vp_in_nI (by omega) (by omega)
  have hv2 : vp_in (nI (5 * t) + 2) L := by rw [show (2 : Int32) = nI 2 from rfl, nI_add]; exact vp_in_nI (by omega) (by omega)
  have hI9 : bv_I (t + 1) (sp_extend X (xs (nI (5 * t) + 1).toNatClampNeg) (xs (nI (5 * t) + 2).toNatClampNeg)).2.2 := bv_I_extend hI _ _
  have fin : ∀ (H : Heap) (locs : List Loc) (ls : Array Slot) (z9 : bv_Z), bv_I (t + 1) (sp_extend X (xs (nI (5 * t) + 1).toNatClampNeg) (xs (nI (5 * t) + 2).toNatClampNeg)).2.2 → bv_H G (bv_vw (sp_extend X (xs (nI (5 * t) + 1).toNatClampNeg) (xs (nI (5 * t) + 2).toNatClampNeg)).2.2) (sp_extend X (xs (nI (5 * t) + 1).toNatClampNeg) (xs (nI (5 * t) + 2).toNatClampNeg)).2.2 z9 H → va_S (bv_A G) s.heap H locs → lv_has ls 7 [(4, .int (nI (5 * t))), (0, .ref b), (1, .ref (bv_a G 0)), (2, .ref (bv_a G 43)), (3, .ref (bv_a G 62))] → W p l e room_1 s m #[Value.ref b] below meth c H locs (cells + 3 + 0 + 0) (slots + 18 + 0 + 0) Q (F0 m 1378 ls []) := fun H locs ls z9 h1 h2 h3 h4 => W.widen (k := cells + 6) (n := slots + 36) (by omega) (by omega) (kk _ z9 H locs ls h1 h2 h3 h4)
  refine lv_aload_n hx hb dL_law_260 rfl (lv_at hl 2 rfl) ?_
  refine lv_aload_n hx hb dL_law_261 rfl (lv_at hl 1 rfl) ?_
  refine lv_iload hx hb dL_law_262 (lv_at hl 0 rfl) ?_
  refine lv_iconst (v := 1) hx hb dL_law_264 (by decide) ?_
  refine lv_iadd hx hb dL_law_265 ?_
  refine va_sld hx hb hX hbl hbA hS hv1 dL_law_266 ?_
  refine lv_aload_n hx hb dL_law_267 rfl (lv_at hl 1 rfl) ?_
  refine lv_iload hx hb dL_law_268 (lv_at hl 0 rfl) ?_
  refine lv_iconst (v := 2) hx hb dL_law_270 (by decide) ?_
  refine lv_iadd hx hb dL_law_271 ?_
  refine va_sld hx hb hX hbl hbA hS hv2 dL_law_272 ?_
  refine lv_aload_n hx hb dL_law_273 rfl (lv_at hl 4 rfl) ?_
  refine bv_ci (vx_runSW (As := [.ref (bv_a G 0), .int (xs (nI (5 * t) + 1).toNatClampNeg), .int (xs (nI (5 * t) + 2).toNatClampNeg), .ref (bv_a G 62)]) (rest := []) ⟨hx, hb, hml, hown, hts⟩ (c_L_extend l hlt G X X z t (xs (nI (5 * t) + 1).toNatClampNeg) (xs (nI (5 * t) + 2).toNatClampNeg) ht hI) (vx_cwSW 4 hts gL_law_L_extend rfl rfl rfl (by decide +kernel) ⟨Nat.le_of_ble_eq_true rfl, Nat.le_of_ble_eq_true rfl⟩) (bv_preS hz9 hP hK hE hS) rfl rfl hl.1 rfl (lv_room (Nat.le_of_ble_eq_true rfl)) dL_law_274 ⟨show cells + 3 ≤ 640723 by omega, show slots + 18 ≤ 7173936 by omega⟩) hS (fun H locs hP hS => ?_)
  refine lv_istore (lv' := [(5, .int (sp_extend X (xs (nI (5 * t) + 1).toNatClampNeg) (xs (nI (5 * t) + 2).toNatClampNeg)).1), (4, .int (nI (5 * t))), (0, .ref b), (1, .ref (bv_a G 0)), (2, .ref (bv_a G 43)), (3, .ref (bv_a G 62))]) hx hb dL_law_277 hl (by decide) rfl (fun ls hl => ?_)
  refine lv_aload_n hx hb dL_law_279 rfl (lv_at hl 4 rfl) ?_
  refine lv_aload_n hx hb dL_law_280 rfl (lv_at hl 2 rfl) ?_
  refine lv_iload hx hb dL_law_281 (lv_at hl 1 rfl) ?_
  refine lv_iconst (v := 1) hx hb dL_law_283 (by decide) ?_
  refine lv_iadd hx hb dL_law_284 ?_
  refine va_sld hx hb hX hbl hbA hS hv1 dL_law_285 ?_
  refine lv_aload_n hx hb dL_law_286 rfl (lv_at hl 2 rfl) ?_
  refine lv_iload hx hb dL_law_287 (lv_at hl 1 rfl) ?_
  refine lv_iconst (v := 2) hx hb dL_law_289 (by decide) ?_
  refine lv_iadd hx hb dL_law_290 ?_
  refine va_sld hx hb hX hbl hbA hS hv2 dL_law_291 ?_
  refine bv_ci (va_runV (As := [.int (xs (nI (5 * t) + 1).toNatClampNeg), .int (xs (nI (5 * t) + 2).toNatClampNeg)]) (rest := []) ⟨hx, hb, hml, hown, hts⟩ (c_X3_extend l G (bv_vw (sp_extend X (xs (nI (5 * t) + 1).toNatClampNeg) (xs (nI (5 * t) + 2).toNatClampNeg)).2.2) X (z.1, if (sp_extend X (xs (nI (5 * t) + 1).toNatClampNeg) (xs (nI (5 * t) + 2).toNatClampNeg)).1 = 0 then (sp_extend X (xs (nI (5 * t) + 1).toNatClampNeg) (xs (nI (5 * t) + 2).toNatClampNeg)).2.1.toInt64 else z.2) t (xs (nI (5 * t) + 1).toNatClampNeg) (xs (nI (5 * t) + 2).toNatClampNeg) ht hI) (cwV 2 hts gL_law_X3_extend rfl rfl rfl (by decide +kernel) ⟨Nat.le_of_ble_eq_true rfl, Nat.le_of_ble_eq_true rfl⟩) (bv_preV hz9 hP hK hE hS (ci := 3) (bv_c43 G _ _ _) rfl rfl) rfl rfl hl.1 rfl (lv_room (Nat.le_of_ble_eq_true rfl)) dL_law_292 ⟨show cells + 3 + 0 ≤ 640723 by omega, show slots + 18 + 0 ≤ 7173936 by omega⟩) hS (fun H locs hP hS => ?_)
  refine lv_istore (lv' := [(6, .int (sp_extend X (xs (nI (5 * t) + 1).toNatClampNeg) (xs (nI (5 * t) + 2).toNatClampNeg)).2.1), (5, .int (sp_extend X (xs (nI (5 * t) + 1).toNatClampNeg) (xs (nI (5 * t) + 2).toNatClampNeg)).1), (4, .int (nI (5 * t))), (0, .ref b), (1, .ref (bv_a G 0)), (2, .ref (bv_a G 43)), (3, .ref (bv_a G 62))]) hx hb dL_law_295 hl (by decide) rfl (fun ls hl => ?_)
  refine lv_aload_n hx hb dL_law_297 rfl (lv_at hl 5 rfl) ?_
  refine bv_ci (va_runV (As := []) (rest := []) ⟨hx, hb, hml, hown, hts⟩ (c_X3_thrown l G (bv_vw (sp_extend X (xs (nI (5 * t) + 1).toNatClampNeg) (xs (nI (5 * t) + 2).toNatClampNeg)).2.2) (sp_extend X (xs (nI (5 * t) + 1).toNatClampNeg) (xs (nI (5 * t) + 2).toNatClampNeg)).2.2 ((sp_extend X (xs (nI (5 * t) + 1).toNatClampNeg) (xs (nI (5 * t) + 2).toNatClampNeg)).1, ((z.1, if (sp_extend X (xs (nI (5 * t) + 1).toNatClampNeg) (xs (nI (5 * t) + 2).toNatClampNeg)).1 = 0 then (sp_extend X (xs (nI (5 * t) + 1).toNatClampNeg) (xs (nI (5 * t) + 2).toNatClampNeg)).2.1.toInt64 else z.2)).2)) (cwV 0 hts gL_law_X3_thrown rfl rfl rfl (by decide +kernel) ⟨Nat.le_of_ble_eq_true rfl, Nat.le_of_ble_eq_true rfl⟩) (bv_preV hz9 hP hK hE hS (ci := 3) (bv_c43 G _ _ _) rfl rfl) rfl rfl hl.1 rfl (lv_room (Nat.le_of_ble_eq_true rfl)) dL_law_298 ⟨show cells + 3 + 0 + 0 ≤ 640723 by omega, show slots + 18 + 0 + 0 ≤ 7173936 by omega⟩) hS (fun H locs hP hS => ?_)
  refine lv_iload hx hb dL_law_301 (lv_at hl 1 rfl) ?_
  refine lv_icmp_eq (tgt := 308) hx hb dL_law_303 (by decide) (fun c_1 => ?_) (fun c_1 => absurd rfl c_1)
  refine lv_iload hx hb dL_law_308 (lv_at hl 1 rfl) ?_
  refine lv_if_ne (tgt := 325) hx hb dL_law_310 (by decide) (fun c_2 => ?_) (fun c_2 => ?_)
  · refine lv_goto (tgt := 1378) hx hb dL_law_325 (by decide) ?_
    exact fin  H locs ls _ hI9 hP hS (lv_sub hl [2, 3, 4, 5, 6] rfl)
  · skip
    refine lv_aload_n hx hb dL_law_313 rfl (lv_at hl 6 rfl) ?_
    refine lv_iconst (v := 0) hx hb dL_law_314 (by decide) ?_
    refine va_lald hx hb hK.2 hP 62 3 (bv_c62 G _ _ _) rfl (show vp_in (0 : Int32) 1 by unfold vp_in; decide) dL_law_315 ?_
    refine lv_iload hx hb dL_law_316 (lv_at hl 0 rfl) ?_
    refine lv_i2l hx hb dL_law_318 rfl ?_
    refine bv_lcmp hx hb (show (if (sp_extend X (xs (nI (5 * t) + 1).toNatClampNeg) (xs (nI (5 * t) + 2).toNatClampNeg)).1 = 0 then (sp_extend X (xs (nI (5 * t) + 1).toNatClampNeg) (xs (nI (5 * t) + 2).toNatClampNeg)).2.1.toInt64 else z.2) = _ by rw [if_pos c_2]) dL_law_319 ?_
    refine lv_if_eq (tgt := 325) hx hb dL_law_320 (by decide) (fun c_9 => ?_) (fun c_9 => absurd rfl c_9)
    refine lv_goto (tgt := 1378) hx hb dL_law_325 (by decide) ?_
    exact fin H locs ls _ hI9 hP hS (lv_sub hl [2, 3, 4, 5, 6] rfl)
set_option maxHeartbeats 1000000 in
set_option maxRecDepth 100000 in
theorem bv_case_giveBack {p : Program} {e : Env} {s : State} {m : MethodId} {below : List Frame} {meth : Method} {c : Code} {Q : State → Prop} (l : Launch) (hlt : l.stackTraces = false) {b L t : Nat} {xs : Nat → Int32} {H : Heap} {locs : List Loc} {ls : Array Slot} {cells slots : Nat} (C0 : lw_At p s m meth c b L xs) (G : bv_G) (hz : bv_n G = s.heap.size) (hK : bv_K G s) (hE : bv_En G s s.heap) (X : bv_X) (z : bv_Z) (hI : bv_I t X) (ht : t ≤ 1000) (h5 : 5 * t + 5 ≤ L) (hL : L ≤ 2560) (hc : cells + 6 ≤ 640723) (hs : slots + 36 ≤ 7173936) (hP : bv_H G (bv_vw X) X z H) (hS : va_S (bv_A G) s.heap H locs) (hl : lv_has ls 7 [(4, .int (nI (5 * t))), (0, .ref b), (1, .ref (bv_a G 0)), (2, .ref (bv_a G 43)), (3, .ref (bv_a G 62))])
    (kk : ∀ (X' : bv_X) (z' : bv_Z) (H : Heap) (locs : List Loc) (ls : Array Slot), bv_I (t + 1) X' → bv_H G (bv_vw X') X' z' H → va_S (bv_A G) s.heap H locs → lv_has ls 7 [(4, .int (nI (5 * t))), (0, .ref b), (1, .ref (bv_a G 0)), (2, .ref (bv_a G 43)), (3, .ref (bv_a G 62))] → W p l e room_1 s m #[Value.ref b] below meth c H locs (cells + 6) (slots + 36) Q (F0 m 1378 ls [])) : W p l e room_1 s m #[Value.ref b] below meth c H locs cells slots Q (F0 m 328 ls []) := by
  obtain ⟨hx, hb, hr, hml, hown, hts, hX, hbl, hlocks, hgv⟩ := C0
  have hts : ∀ w ∈ wsL_law, w.before #[Value.ref b] s = true := fun w h => hts w (wsL_law_in w h)
  have hown : s.vm.findClass RL = some m.cls := hown
  have hbA : ¬ bv_A G b := by unfold bv_A; rw [hz]; exact Nat.not_le.mpr hbl
  have hz9 : bv_n G ≤ s.heap.size := Nat.le_of_eq hz
  have hv1 : vp_in (nI (5 * t) + 1) L := by rw [show (1 : Int32) = nI 1 from rfl, nI_add]; exact vp_in_nI (by omega) (by omega)
  have hv2 : vp_in (nI (5 * t) + 2) L := by rw [show (2 : Int32) = nI 2 from rfl, nI_add]; exact vp_in_nI (by omega) (by omega)
  have hI9 : bv_I (t + 1) (sp_giveBack X (xs (nI (5 * t) + 1).toNatClampNeg) (xs (nI (5 * t) + 2).toNatClampNeg)).2.2 := bv_I_giveBack hI _ _
  have fin : ∀ (H : Heap) (locs : List Loc) (ls : Array Slot) (z9 : bv_Z), bv_I (t + 1) (sp_giveBack X (xs (nI (5 * t) + 1).toNatClampNeg) (xs (nI (5 * t) + 2).toNatClampNeg)).2.2 → bv_H G (bv_vw (sp_giveBack X (xs (nI (5 * t) + 1).toNatClampNeg) (xs (nI (5 * t) + 2).toNatClampNeg)).2.2) (sp_giveBack X (xs (nI (5 * t) + 1).toNatClampNeg) (xs (nI (5 * t) + 2).toNatClampNeg)).2.2 z9 H → va_S (bv_A G) s.heap H locs → lv_has ls 7 [(4, .int (nI (5 * t))), (0, .ref b), (1, .ref (bv_a G 0)), (2, .ref (bv_a G 43)), (3, .ref (bv_a G 62))] → W p l e room_1 s m #[Value.ref b] below meth c H locs (cells + 4 + 0 + 0) (slots + 24 + 0 + 0) Q (F0 m 1378 ls []) := fun H locs ls z9 h1 h2 h3 h4 => W.widen (k := cells + 6) (n := slots + 36) (by omega) (by omega) (kk _ z9 H locs ls h1 h2 h3 h4)
  refine lv_aload_n hx hb dL_law_328 rfl (lv_at hl 2 rfl) ?_
  refine lv_aload_n hx hb dL_law_329 rfl (lv_at hl 1 rfl) ?_
  refine lv_iload hx hb dL_law_330 (lv_at hl 0 rfl) ?_
  refine lv_iconst (v := 1) hx hb dL_law_332 (by decide) ?_
  refine lv_iadd hx hb dL_law_333 ?_
  refine va_sld hx hb hX hbl hbA hS hv1 dL_law_334 ?_
  refine lv_aload_n hx hb dL_law_335 rfl (lv_at hl 1 rfl) ?_
  refine lv_iload hx hb dL_law_336 (lv_at hl 0 rfl) ?_
  refine lv_iconst (v := 2) hx hb dL_law_338 (by decide) ?_
  refine lv_iadd hx hb dL_law_339 ?_
  refine va_sld hx hb hX hbl hbA hS hv2 dL_law_340 ?_
  refine lv_aload_n hx hb dL_law_341 rfl (lv_at hl 4 rfl) ?_
  refine bv_ci (vx_runSW (As := [.ref (bv_a G 0), .int (xs (nI (5 * t) + 1).toNatClampNeg), .int (xs (nI (5 * t) + 2).toNatClampNeg), .ref (bv_a G 62)]) (rest := []) ⟨hx, hb, hml, hown, hts⟩ (c_L_giveBack l hlt G X X z t (xs (nI (5 * t) + 1).toNatClampNeg) (xs (nI (5 * t) + 2).toNatClampNeg) ht hI) (vx_cwSW 4 hts gL_law_L_giveBack rfl rfl rfl (by decide +kernel) ⟨Nat.le_of_ble_eq_true rfl, Nat.le_of_ble_eq_true rfl⟩) (bv_preS hz9 hP hK hE hS) rfl rfl hl.1 rfl (lv_room (Nat.le_of_ble_eq_true rfl)) dL_law_342 ⟨show cells + 4 ≤ 640723 by omega, show slots + 24 ≤ 7173936 by omega⟩) hS (fun H locs hP hS => ?_)
  refine lv_istore (lv' := [(5, .int (sp_giveBack X (xs (nI (5 * t) + 1).toNatClampNeg) (xs (nI (5 * t) + 2).toNatClampNeg)).1), (4, .int (nI (5 * t))), (0, .ref b), (1, .ref (bv_a G 0)), (2, .ref (bv_a G 43)), (3, .ref (bv_a G 62))]) hx hb dL_law_345 hl (by decide) rfl (fun ls hl => ?_)
  refine lv_aload_n hx hb dL_law_347 rfl (lv_at hl 4 rfl) ?_
  refine lv_aload_n hx hb dL_law_348 rfl (lv_at hl 2 rfl) ?_
  refine lv_iload hx hb dL_law_349 (lv_at hl 1 rfl) ?_
  refine lv_iconst (v := 1) hx hb dL_law_351 (by decide) ?_
  refine lv_iadd hx hb dL_law_352 ?_
  refine va_sld hx hb hX hbl hbA hS hv1 dL_law_353 ?_
  refine lv_aload_n hx hb dL_law_354 rfl (lv_at hl 2 rfl) ?_
  refine lv_iload hx hb dL_law_355 (lv_at hl 1 rfl) ?_
  refine lv_iconst (v := 2) hx hb dL_law_357 (by decide) ?_
  refine lv_iadd hx hb dL_law_358 ?_
  refine va_sld hx hb hX hbl hbA hS hv2 dL_law_359 ?_
  refine bv_ci (va_runV (As := [.int (xs (nI (5 * t) + 1).toNatClampNeg), .int (xs (nI (5 * t) + 2).toNatClampNeg)]) (rest := []) ⟨hx, hb, hml, hown, hts⟩ (c_X3_giveBack l G (bv_vw (sp_giveBack X (xs (nI (5 * t) + 1).toNatClampNeg) (xs (nI (5 * t) + 2).toNatClampNeg)).2.2) X (z.1, if (sp_giveBack X (xs (nI (5 * t) + 1).toNatClampNeg) (xs (nI (5 * t) + 2).toNatClampNeg)).1 = 0 then (sp_giveBack X (xs (nI (5 * t) + 1).toNatClampNeg) (xs (nI (5 * t) + 2).toNatClampNeg)).2.1.toInt64 else z.2) t (xs (nI (5 * t) + 1).toNatClampNeg) (xs (nI (5 * t) + 2).toNatClampNeg) ht hI) (cwV 2 hts gL_law_X3_giveBack rfl rfl rfl (by decide +kernel) ⟨Nat.le_of_ble_eq_true rfl, Nat.le_of_ble_eq_true rfl⟩) (bv_preV hz9 hP hK hE hS (ci := 3) (bv_c43 G _ _ _) rfl rfl) rfl rfl hl.1 rfl (lv_room (Nat.le_of_ble_eq_true rfl)) dL_law_360 ⟨show cells + 4 + 0 ≤ 640723 by omega, show slots + 24 + 0 ≤ 7173936 by omega⟩) hS (fun H locs hP hS => ?_)
  refine lv_istore (lv' := [(6, .int (sp_giveBack X (xs (nI (5 * t) + 1).toNatClampNeg) (xs (nI (5 * t) + 2).toNatClampNeg)).2.1), (5, .int (sp_giveBack X (xs (nI (5 * t) + 1).toNatClampNeg) (xs (nI (5 * t) + 2).toNatClampNeg)).1), (4, .int (nI (5 * t))), (0, .ref b), (1, .ref (bv_a G 0)), (2, .ref (bv_a G 43)), (3, .ref (bv_a G 62))]) hx hb dL_law_363 hl (by decide) rfl (fun ls hl => ?_)
  refine lv_aload_n hx hb dL_law_365 rfl (lv_at hl 5 rfl) ?_
  refine bv_ci (va_runV (As := []) (rest := []) ⟨hx, hb, hml, hown, hts⟩ (c_X3_thrown l G (bv_vw (sp_giveBack X (xs (nI (5 * t) + 1).toNatClampNeg) (xs (nI (5 * t) + 2).toNatClampNeg)).2.2) (sp_giveBack X (xs (nI (5 * t) + 1).toNatClampNeg) (xs (nI (5 * t) + 2).toNatClampNeg)).2.2 ((sp_giveBack X (xs (nI (5 * t) + 1).toNatClampNeg) (xs (nI (5 * t) + 2).toNatClampNeg)).1, ((z.1, if (sp_giveBack X (xs (nI (5 * t) + 1).toNatClampNeg) (xs (nI (5 * t) + 2).toNatClampNeg)).1 = 0 then (sp_giveBack X (xs (nI (5 * t) + 1).toNatClampNeg) (xs (nI (5 * t) + 2).toNatClampNeg)).2.1.toInt64 else z.2)).2)) (cwV 0 hts gL_law_X3_thrown rfl rfl rfl (by decide +kernel) ⟨Nat.le_of_ble_eq_true rfl, Nat.le_of_ble_eq_true rfl⟩) (bv_preV hz9 hP hK hE hS (ci := 3) (bv_c43 G _ _ _) rfl rfl) rfl rfl hl.1 rfl (lv_room (Nat.le_of_ble_eq_true rfl)) dL_law_366 ⟨show cells + 4 + 0 + 0 ≤ 640723 by omega, show slots + 24 + 0 + 0 ≤ 7173936 by omega⟩) hS (fun H locs hP hS => ?_)
  refine lv_iload hx hb dL_law_369 (lv_at hl 1 rfl) ?_
  refine lv_icmp_eq (tgt := 376) hx hb dL_law_371 (by decide) (fun c_1 => ?_) (fun c_1 => absurd rfl c_1)
  refine lv_iload hx hb dL_law_376 (lv_at hl 1 rfl) ?_
  refine lv_if_ne (tgt := 393) hx hb dL_law_378 (by decide) (fun c_2 => ?_) (fun c_2 => ?_)
  · refine lv_goto (tgt := 1378) hx hb dL_law_393 (by decide) ?_
    exact fin  H locs ls _ hI9 hP hS (lv_sub hl [2, 3, 4, 5, 6] rfl)
  · skip
    refine lv_aload_n hx hb dL_law_381 rfl (lv_at hl 6 rfl) ?_
    refine lv_iconst (v := 0) hx hb dL_law_382 (by decide) ?_
    refine va_lald hx hb hK.2 hP 62 3 (bv_c62 G _ _ _) rfl (show vp_in (0 : Int32) 1 by unfold vp_in; decide) dL_law_383 ?_
    refine lv_iload hx hb dL_law_384 (lv_at hl 0 rfl) ?_
    refine lv_i2l hx hb dL_law_386 rfl ?_
    refine bv_lcmp hx hb (show (if (sp_giveBack X (xs (nI (5 * t) + 1).toNatClampNeg) (xs (nI (5 * t) + 2).toNatClampNeg)).1 = 0 then (sp_giveBack X (xs (nI (5 * t) + 1).toNatClampNeg) (xs (nI (5 * t) + 2).toNatClampNeg)).2.1.toInt64 else z.2) = _ by rw [if_pos c_2]) dL_law_387 ?_
    refine lv_if_eq (tgt := 393) hx hb dL_law_388 (by decide) (fun c_9 => ?_) (fun c_9 => absurd rfl c_9)
    refine lv_goto (tgt := 1378) hx hb dL_law_393 (by decide) ?_
    exact fin H locs ls _ hI9 hP hS (lv_sub hl [2, 3, 4, 5, 6] rfl)
set_option maxHeartbeats 1000000 in
set_option maxRecDepth 100000 in
theorem bv_case_drill {p : Program} {e : Env} {s : State} {m : MethodId} {below : List Frame} {meth : Method} {c : Code} {Q : State → Prop} (l : Launch) (hlt : l.stackTraces = false) {b L t : Nat} {xs : Nat → Int32} {H : Heap} {locs : List Loc} {ls : Array Slot} {cells slots : Nat} (C0 : lw_At p s m meth c b L xs) (G : bv_G) (hz : bv_n G = s.heap.size) (hK : bv_K G s) (hE : bv_En G s s.heap) (X : bv_X) (z : bv_Z) (hI : bv_I t X) (ht : t ≤ 1000) (h5 : 5 * t + 5 ≤ L) (hL : L ≤ 2560) (hc : cells + 6 ≤ 640723) (hs : slots + 36 ≤ 7173936) (hP : bv_H G (bv_vw X) X z H) (hS : va_S (bv_A G) s.heap H locs) (hl : lv_has ls 7 [(4, .int (nI (5 * t))), (0, .ref b), (1, .ref (bv_a G 0)), (2, .ref (bv_a G 43)), (3, .ref (bv_a G 62))])
    (kk : ∀ (X' : bv_X) (z' : bv_Z) (H : Heap) (locs : List Loc) (ls : Array Slot), bv_I (t + 1) X' → bv_H G (bv_vw X') X' z' H → va_S (bv_A G) s.heap H locs → lv_has ls 7 [(4, .int (nI (5 * t))), (0, .ref b), (1, .ref (bv_a G 0)), (2, .ref (bv_a G 43)), (3, .ref (bv_a G 62))] → W p l e room_1 s m #[Value.ref b] below meth c H locs (cells + 6) (slots + 36) Q (F0 m 1378 ls [])) : W p l e room_1 s m #[Value.ref b] below meth c H locs cells slots Q (F0 m 396 ls []) := by
  obtain ⟨hx, hb, hr, hml, hown, hts, hX, hbl, hlocks, hgv⟩ := C0
  have hts : ∀ w ∈ wsL_law, w.before #[Value.ref b] s = true := fun w h => hts w (wsL_law_in w h)
  have hown : s.vm.findClass RL = some m.cls := hown
  have hbA : ¬ bv_A G b := by unfold bv_A; rw [hz]; exact Nat.not_le.mpr hbl
  have hz9 : bv_n G ≤ s.heap.size := Nat.le_of_eq hz
  have hv1 : vp_in (nI (5 * t) + 1) L := by rw [show (1 : Int32) = nI 1 from rfl, nI_add]; exact vp_in_nI (by omega) (by omega)
  have hv2 : vp_in (nI (5 * t) + 2) L := by rw [show (2 : Int32) = nI 2 from rfl, nI_add]; exact vp_in_nI (by omega) (by omega)
  have hv3 : vp_in (nI (5 * t) + 3) L := by rw [show (3 : Int32) = nI 3 from rfl, nI_add]; exact vp_in_nI (by omega) (by omega)
  have hI9 : bv_I (t + 1) (sp_drill X (xs (nI (5 * t) + 1).toNatClampNeg) (xs (nI (5 * t) + 2).toNatClampNeg) (xs (nI (5 * t) + 3).toNatClampNeg)).2.2 := bv_I_drill hI _ _ _
  have fin : ∀ (H : Heap) (locs : List Loc) (ls : Array Slot) (z9 : bv_Z), bv_I (t + 1) (sp_drill X (xs (nI (5 * t) + 1).toNatClampNeg) (xs (nI (5 * t) + 2).toNatClampNeg) (xs (nI (5 * t) + 3).toNatClampNeg)).2.2 → bv_H G (bv_vw (sp_drill X (xs (nI (5 * t) + 1).toNatClampNeg) (xs (nI (5 * t) + 2).toNatClampNeg) (xs (nI (5 * t) + 3).toNatClampNeg)).2.2) (sp_drill X (xs (nI (5 * t) + 1).toNatClampNeg) (xs (nI (5 * t) + 2).toNatClampNeg) (xs (nI (5 * t) + 3).toNatClampNeg)).2.2 z9 H → va_S (bv_A G) s.heap H locs → lv_has ls 7 [(4, .int (nI (5 * t))), (0, .ref b), (1, .ref (bv_a G 0)), (2, .ref (bv_a G 43)), (3, .ref (bv_a G 62))] → W p l e room_1 s m #[Value.ref b] below meth c H locs (cells + 5 + 0 + 0) (slots + 30 + 0 + 0) Q (F0 m 1378 ls []) := fun H locs ls z9 h1 h2 h3 h4 => W.widen (k := cells + 6) (n := slots + 36) (by omega) (by omega) (kk _ z9 H locs ls h1 h2 h3 h4)
  refine lv_aload_n hx hb dL_law_396 rfl (lv_at hl 2 rfl) ?_
  refine lv_aload_n hx hb dL_law_397 rfl (lv_at hl 1 rfl) ?_
  refine lv_iload hx hb dL_law_398 (lv_at hl 0 rfl) ?_
  refine lv_iconst (v := 1) hx hb dL_law_400 (by decide) ?_
  refine lv_iadd hx hb dL_law_401 ?_
  refine va_sld hx hb hX hbl hbA hS hv1 dL_law_402 ?_
  refine lv_aload_n hx hb dL_law_403 rfl (lv_at hl 1 rfl) ?_
  refine lv_iload hx hb dL_law_404 (lv_at hl 0 rfl) ?_
  refine lv_iconst (v := 2) hx hb dL_law_406 (by decide) ?_
  refine lv_iadd hx hb dL_law_407 ?_
  refine va_sld hx hb hX hbl hbA hS hv2 dL_law_408 ?_
  refine lv_aload_n hx hb dL_law_409 rfl (lv_at hl 1 rfl) ?_
  refine lv_iload hx hb dL_law_410 (lv_at hl 0 rfl) ?_
  refine lv_iconst (v := 3) hx hb dL_law_412 (by decide) ?_
  refine lv_iadd hx hb dL_law_413 ?_
  refine va_sld hx hb hX hbl hbA hS hv3 dL_law_414 ?_
  refine lv_aload_n hx hb dL_law_415 rfl (lv_at hl 4 rfl) ?_
  refine bv_ci (vx_runSW (As := [.ref (bv_a G 0), .int (xs (nI (5 * t) + 1).toNatClampNeg), .int (xs (nI (5 * t) + 2).toNatClampNeg), .int (xs (nI (5 * t) + 3).toNatClampNeg), .ref (bv_a G 62)]) (rest := []) ⟨hx, hb, hml, hown, hts⟩ (c_L_drill l hlt G X X z t (xs (nI (5 * t) + 1).toNatClampNeg) (xs (nI (5 * t) + 2).toNatClampNeg) (xs (nI (5 * t) + 3).toNatClampNeg) ht hI) (vx_cwSW 5 hts gL_law_L_drill rfl rfl rfl (by decide +kernel) ⟨Nat.le_of_ble_eq_true rfl, Nat.le_of_ble_eq_true rfl⟩) (bv_preS hz9 hP hK hE hS) rfl rfl hl.1 rfl (lv_room (Nat.le_of_ble_eq_true rfl)) dL_law_416 ⟨show cells + 5 ≤ 640723 by omega, show slots + 30 ≤ 7173936 by omega⟩) hS (fun H locs hP hS => ?_)
  refine lv_istore (lv' := [(5, .int (sp_drill X (xs (nI (5 * t) + 1).toNatClampNeg) (xs (nI (5 * t) + 2).toNatClampNeg) (xs (nI (5 * t) + 3).toNatClampNeg)).1), (4, .int (nI (5 * t))), (0, .ref b), (1, .ref (bv_a G 0)), (2, .ref (bv_a G 43)), (3, .ref (bv_a G 62))]) hx hb dL_law_419 hl (by decide) rfl (fun ls hl => ?_)
  refine lv_aload_n hx hb dL_law_421 rfl (lv_at hl 4 rfl) ?_
  refine lv_aload_n hx hb dL_law_422 rfl (lv_at hl 2 rfl) ?_
  refine lv_iload hx hb dL_law_423 (lv_at hl 1 rfl) ?_
  refine lv_iconst (v := 1) hx hb dL_law_425 (by decide) ?_
  refine lv_iadd hx hb dL_law_426 ?_
  refine va_sld hx hb hX hbl hbA hS hv1 dL_law_427 ?_
  refine lv_aload_n hx hb dL_law_428 rfl (lv_at hl 2 rfl) ?_
  refine lv_iload hx hb dL_law_429 (lv_at hl 1 rfl) ?_
  refine lv_iconst (v := 2) hx hb dL_law_431 (by decide) ?_
  refine lv_iadd hx hb dL_law_432 ?_
  refine va_sld hx hb hX hbl hbA hS hv2 dL_law_433 ?_
  refine lv_aload_n hx hb dL_law_434 rfl (lv_at hl 2 rfl) ?_
  refine lv_iload hx hb dL_law_435 (lv_at hl 1 rfl) ?_
  refine lv_iconst (v := 3) hx hb dL_law_437 (by decide) ?_
  refine lv_iadd hx hb dL_law_438 ?_
  refine va_sld hx hb hX hbl hbA hS hv3 dL_law_439 ?_
  refine bv_ci (va_runV (As := [.int (xs (nI (5 * t) + 1).toNatClampNeg), .int (xs (nI (5 * t) + 2).toNatClampNeg), .int (xs (nI (5 * t) + 3).toNatClampNeg)]) (rest := []) ⟨hx, hb, hml, hown, hts⟩ (c_X3_drill l G (bv_vw (sp_drill X (xs (nI (5 * t) + 1).toNatClampNeg) (xs (nI (5 * t) + 2).toNatClampNeg) (xs (nI (5 * t) + 3).toNatClampNeg)).2.2) X (z.1, if (sp_drill X (xs (nI (5 * t) + 1).toNatClampNeg) (xs (nI (5 * t) + 2).toNatClampNeg) (xs (nI (5 * t) + 3).toNatClampNeg)).1 = 0 then (sp_drill X (xs (nI (5 * t) + 1).toNatClampNeg) (xs (nI (5 * t) + 2).toNatClampNeg) (xs (nI (5 * t) + 3).toNatClampNeg)).2.1.toInt64 else z.2) t (xs (nI (5 * t) + 1).toNatClampNeg) (xs (nI (5 * t) + 2).toNatClampNeg) (xs (nI (5 * t) + 3).toNatClampNeg) ht hI) (cwV 3 hts gL_law_X3_drill rfl rfl rfl (by decide +kernel) ⟨Nat.le_of_ble_eq_true rfl, Nat.le_of_ble_eq_true rfl⟩) (bv_preV hz9 hP hK hE hS (ci := 3) (bv_c43 G _ _ _) rfl rfl) rfl rfl hl.1 rfl (lv_room (Nat.le_of_ble_eq_true rfl)) dL_law_440 ⟨show cells + 5 + 0 ≤ 640723 by omega, show slots + 30 + 0 ≤ 7173936 by omega⟩) hS (fun H locs hP hS => ?_)
  refine lv_istore (lv' := [(6, .int (sp_drill X (xs (nI (5 * t) + 1).toNatClampNeg) (xs (nI (5 * t) + 2).toNatClampNeg) (xs (nI (5 * t) + 3).toNatClampNeg)).2.1), (5, .int (sp_drill X (xs (nI (5 * t) + 1).toNatClampNeg) (xs (nI (5 * t) + 2).toNatClampNeg) (xs (nI (5 * t) + 3).toNatClampNeg)).1), (4, .int (nI (5 * t))), (0, .ref b), (1, .ref (bv_a G 0)), (2, .ref (bv_a G 43)), (3, .ref (bv_a G 62))]) hx hb dL_law_443 hl (by decide) rfl (fun ls hl => ?_)
  refine lv_aload_n hx hb dL_law_445 rfl (lv_at hl 5 rfl) ?_
  refine bv_ci (va_runV (As := []) (rest := []) ⟨hx, hb, hml, hown, hts⟩ (c_X3_thrown l G (bv_vw (sp_drill X (xs (nI (5 * t) + 1).toNatClampNeg) (xs (nI (5 * t) + 2).toNatClampNeg) (xs (nI (5 * t) + 3).toNatClampNeg)).2.2) (sp_drill X (xs (nI (5 * t) + 1).toNatClampNeg) (xs (nI (5 * t) + 2).toNatClampNeg) (xs (nI (5 * t) + 3).toNatClampNeg)).2.2 ((sp_drill X (xs (nI (5 * t) + 1).toNatClampNeg) (xs (nI (5 * t) + 2).toNatClampNeg) (xs (nI (5 * t) + 3).toNatClampNeg)).1, ((z.1, if (sp_drill X (xs (nI (5 * t) + 1).toNatClampNeg) (xs (nI (5 * t) + 2).toNatClampNeg) (xs (nI (5 * t) + 3).toNatClampNeg)).1 = 0 then (sp_drill X (xs (nI (5 * t) + 1).toNatClampNeg) (xs (nI (5 * t) + 2).toNatClampNeg) (xs (nI (5 * t) + 3).toNatClampNeg)).2.1.toInt64 else z.2)).2)) (cwV 0 hts gL_law_X3_thrown rfl rfl rfl (by decide +kernel) ⟨Nat.le_of_ble_eq_true rfl, Nat.le_of_ble_eq_true rfl⟩) (bv_preV hz9 hP hK hE hS (ci := 3) (bv_c43 G _ _ _) rfl rfl) rfl rfl hl.1 rfl (lv_room (Nat.le_of_ble_eq_true rfl)) dL_law_446 ⟨show cells + 5 + 0 + 0 ≤ 640723 by omega, show slots + 30 + 0 + 0 ≤ 7173936 by omega⟩) hS (fun H locs hP hS => ?_)
  refine lv_iload hx hb dL_law_449 (lv_at hl 1 rfl) ?_
  refine lv_icmp_eq (tgt := 456) hx hb dL_law_451 (by decide) (fun c_1 => ?_) (fun c_1 => absurd rfl c_1)
  refine lv_iload hx hb dL_law_456 (lv_at hl 1 rfl) ?_
  refine lv_if_ne (tgt := 473) hx hb dL_law_458 (by decide) (fun c_2 => ?_) (fun c_2 => ?_)
  · refine lv_goto (tgt := 1378) hx hb dL_law_473 (by decide) ?_
    exact fin  H locs ls _ hI9 hP hS (lv_sub hl [2, 3, 4, 5, 6] rfl)
  · skip
    refine lv_aload_n hx hb dL_law_461 rfl (lv_at hl 6 rfl) ?_
    refine lv_iconst (v := 0) hx hb dL_law_462 (by decide) ?_
    refine va_lald hx hb hK.2 hP 62 3 (bv_c62 G _ _ _) rfl (show vp_in (0 : Int32) 1 by unfold vp_in; decide) dL_law_463 ?_
    refine lv_iload hx hb dL_law_464 (lv_at hl 0 rfl) ?_
    refine lv_i2l hx hb dL_law_466 rfl ?_
    refine bv_lcmp hx hb (show (if (sp_drill X (xs (nI (5 * t) + 1).toNatClampNeg) (xs (nI (5 * t) + 2).toNatClampNeg) (xs (nI (5 * t) + 3).toNatClampNeg)).1 = 0 then (sp_drill X (xs (nI (5 * t) + 1).toNatClampNeg) (xs (nI (5 * t) + 2).toNatClampNeg) (xs (nI (5 * t) + 3).toNatClampNeg)).2.1.toInt64 else z.2) = _ by rw [if_pos c_2]) dL_law_467 ?_
    refine lv_if_eq (tgt := 473) hx hb dL_law_468 (by decide) (fun c_9 => ?_) (fun c_9 => absurd rfl c_9)
    refine lv_goto (tgt := 1378) hx hb dL_law_473 (by decide) ?_
    exact fin H locs ls _ hI9 hP hS (lv_sub hl [2, 3, 4, 5, 6] rfl)
set_option maxHeartbeats 1000000 in
set_option maxRecDepth 100000 in
theorem bv_case_fetch {p : Program} {e : Env} {s : State} {m : MethodId} {below : List Frame} {meth : Method} {c : Code} {Q : State → Prop} (l : Launch) (hlt : l.stackTraces = false) {b L t : Nat} {xs : Nat → Int32} {H : Heap} {locs : List Loc} {ls : Array Slot} {cells slots : Nat} (C0 : lw_At p s m meth c b L xs) (G : bv_G) (hz : bv_n G = s.heap.size) (hK : bv_K G s) (hE : bv_En G s s.heap) (X : bv_X) (z : bv_Z) (hI : bv_I t X) (ht : t ≤ 1000) (h5 : 5 * t + 5 ≤ L) (hL : L ≤ 2560) (hc : cells + 6 ≤ 640723) (hs : slots + 36 ≤ 7173936) (hP : bv_H G (bv_vw X) X z H) (hS : va_S (bv_A G) s.heap H locs) (hl : lv_has ls 7 [(4, .int (nI (5 * t))), (0, .ref b), (1, .ref (bv_a G 0)), (2, .ref (bv_a G 43)), (3, .ref (bv_a G 62))])
    (kk : ∀ (X' : bv_X) (z' : bv_Z) (H : Heap) (locs : List Loc) (ls : Array Slot), bv_I (t + 1) X' → bv_H G (bv_vw X') X' z' H → va_S (bv_A G) s.heap H locs → lv_has ls 7 [(4, .int (nI (5 * t))), (0, .ref b), (1, .ref (bv_a G 0)), (2, .ref (bv_a G 43)), (3, .ref (bv_a G 62))] → W p l e room_1 s m #[Value.ref b] below meth c H locs (cells + 6) (slots + 36) Q (F0 m 1378 ls [])) : W p l e room_1 s m #[Value.ref b] below meth c H locs cells slots Q (F0 m 476 ls []) := by
  obtain ⟨hx, hb, hr, hml, hown, hts, hX, hbl, hlocks, hgv⟩ := C0
  have hts : ∀ w ∈ wsL_law, w.before #[Value.ref b] s = true := fun w h => hts w (wsL_law_in w h)
  have hown : s.vm.findClass RL = some m.cls := hown
  have hbA : ¬ bv_A G b := by unfold bv_A; rw [hz]; exact Nat.not_le.mpr hbl
  have hz9 : bv_n G ≤ s.heap.size := Nat.le_of_eq hz
  have hv1 : vp_in (nI (5 * t) + 1) L := by rw [show (1 : Int32) = nI 1 from rfl, nI_add]; exact vp_in_nI (by omega) (by omega)
  have hv2 : vp_in (nI (5 * t) + 2) L := by rw [show (2 : Int32) = nI 2 from rfl, nI_add]; exact vp_in_nI (by omega) (by omega)
  have hI9 : bv_I (t + 1) (sp_fetch X (xs (nI (5 * t) + 1).toNatClampNeg) (xs (nI (5 * t) + 2).toNatClampNeg)).2.2 := bv_I_fetch hI _ _
  have fin : ∀ (H : Heap) (locs : List Loc) (ls : Array Slot) (z9 : bv_Z), bv_I (t + 1) (sp_fetch X (xs (nI (5 * t) + 1).toNatClampNeg) (xs (nI (5 * t) + 2).toNatClampNeg)).2.2 → bv_H G (bv_vw (sp_fetch X (xs (nI (5 * t) + 1).toNatClampNeg) (xs (nI (5 * t) + 2).toNatClampNeg)).2.2) (sp_fetch X (xs (nI (5 * t) + 1).toNatClampNeg) (xs (nI (5 * t) + 2).toNatClampNeg)).2.2 z9 H → va_S (bv_A G) s.heap H locs → lv_has ls 7 [(4, .int (nI (5 * t))), (0, .ref b), (1, .ref (bv_a G 0)), (2, .ref (bv_a G 43)), (3, .ref (bv_a G 62))] → W p l e room_1 s m #[Value.ref b] below meth c H locs (cells + 3 + 0 + 0) (slots + 18 + 0 + 0) Q (F0 m 1378 ls []) := fun H locs ls z9 h1 h2 h3 h4 => W.widen (k := cells + 6) (n := slots + 36) (by omega) (by omega) (kk _ z9 H locs ls h1 h2 h3 h4)
  refine lv_aload_n hx hb dL_law_476 rfl (lv_at hl 2 rfl) ?_
  refine lv_aload_n hx hb dL_law_477 rfl (lv_at hl 1 rfl) ?_
  refine lv_iload hx hb dL_law_478 (lv_at hl 0 rfl) ?_
  refine lv_iconst (v := 1) hx hb dL_law_480 (by decide) ?_
  refine lv_iadd hx hb dL_law_481 ?_
  refine va_sld hx hb hX hbl hbA hS hv1 dL_law_482 ?_
  refine lv_aload_n hx hb dL_law_483 rfl (lv_at hl 1 rfl) ?_
  refine lv_iload hx hb dL_law_484 (lv_at hl 0 rfl) ?_
  refine lv_iconst (v := 2) hx hb dL_law_486 (by decide) ?_
  refine lv_iadd hx hb dL_law_487 ?_
  refine va_sld hx hb hX hbl hbA hS hv2 dL_law_488 ?_
  refine lv_aload_n hx hb dL_law_489 rfl (lv_at hl 4 rfl) ?_
  refine bv_ci (vx_runSW (As := [.ref (bv_a G 0), .int (xs (nI (5 * t) + 1).toNatClampNeg), .int (xs (nI (5 * t) + 2).toNatClampNeg), .ref (bv_a G 62)]) (rest := []) ⟨hx, hb, hml, hown, hts⟩ (c_L_fetch l hlt G X X z t (xs (nI (5 * t) + 1).toNatClampNeg) (xs (nI (5 * t) + 2).toNatClampNeg) ht hI) (vx_cwSW 4 hts gL_law_L_fetch rfl rfl rfl (by decide +kernel) ⟨Nat.le_of_ble_eq_true rfl, Nat.le_of_ble_eq_true rfl⟩) (bv_preS hz9 hP hK hE hS) rfl rfl hl.1 rfl (lv_room (Nat.le_of_ble_eq_true rfl)) dL_law_490 ⟨show cells + 3 ≤ 640723 by omega, show slots + 18 ≤ 7173936 by omega⟩) hS (fun H locs hP hS => ?_)
  refine lv_istore (lv' := [(5, .int (sp_fetch X (xs (nI (5 * t) + 1).toNatClampNeg) (xs (nI (5 * t) + 2).toNatClampNeg)).1), (4, .int (nI (5 * t))), (0, .ref b), (1, .ref (bv_a G 0)), (2, .ref (bv_a G 43)), (3, .ref (bv_a G 62))]) hx hb dL_law_493 hl (by decide) rfl (fun ls hl => ?_)
  refine lv_aload_n hx hb dL_law_495 rfl (lv_at hl 4 rfl) ?_
  refine lv_aload_n hx hb dL_law_496 rfl (lv_at hl 2 rfl) ?_
  refine lv_iload hx hb dL_law_497 (lv_at hl 1 rfl) ?_
  refine lv_iconst (v := 1) hx hb dL_law_499 (by decide) ?_
  refine lv_iadd hx hb dL_law_500 ?_
  refine va_sld hx hb hX hbl hbA hS hv1 dL_law_501 ?_
  refine lv_aload_n hx hb dL_law_502 rfl (lv_at hl 2 rfl) ?_
  refine lv_iload hx hb dL_law_503 (lv_at hl 1 rfl) ?_
  refine lv_iconst (v := 2) hx hb dL_law_505 (by decide) ?_
  refine lv_iadd hx hb dL_law_506 ?_
  refine va_sld hx hb hX hbl hbA hS hv2 dL_law_507 ?_
  refine bv_ci (va_runV (As := [.int (xs (nI (5 * t) + 1).toNatClampNeg), .int (xs (nI (5 * t) + 2).toNatClampNeg)]) (rest := []) ⟨hx, hb, hml, hown, hts⟩ (c_X3_fetch l G (bv_vw (sp_fetch X (xs (nI (5 * t) + 1).toNatClampNeg) (xs (nI (5 * t) + 2).toNatClampNeg)).2.2) X (z.1, if (sp_fetch X (xs (nI (5 * t) + 1).toNatClampNeg) (xs (nI (5 * t) + 2).toNatClampNeg)).1 = 0 then (sp_fetch X (xs (nI (5 * t) + 1).toNatClampNeg) (xs (nI (5 * t) + 2).toNatClampNeg)).2.1.toInt64 else z.2) t (xs (nI (5 * t) + 1).toNatClampNeg) (xs (nI (5 * t) + 2).toNatClampNeg) ht hI) (cwV 2 hts gL_law_X3_fetch rfl rfl rfl (by decide +kernel) ⟨Nat.le_of_ble_eq_true rfl, Nat.le_of_ble_eq_true rfl⟩) (bv_preV hz9 hP hK hE hS (ci := 3) (bv_c43 G _ _ _) rfl rfl) rfl rfl hl.1 rfl (lv_room (Nat.le_of_ble_eq_true rfl)) dL_law_508 ⟨show cells + 3 + 0 ≤ 640723 by omega, show slots + 18 + 0 ≤ 7173936 by omega⟩) hS (fun H locs hP hS => ?_)
  refine lv_istore (lv' := [(6, .int (sp_fetch X (xs (nI (5 * t) + 1).toNatClampNeg) (xs (nI (5 * t) + 2).toNatClampNeg)).2.1), (5, .int (sp_fetch X (xs (nI (5 * t) + 1).toNatClampNeg) (xs (nI (5 * t) + 2).toNatClampNeg)).1), (4, .int (nI (5 * t))), (0, .ref b), (1, .ref (bv_a G 0)), (2, .ref (bv_a G 43)), (3, .ref (bv_a G 62))]) hx hb dL_law_511 hl (by decide) rfl (fun ls hl => ?_)
  refine lv_aload_n hx hb dL_law_513 rfl (lv_at hl 5 rfl) ?_
  refine bv_ci (va_runV (As := []) (rest := []) ⟨hx, hb, hml, hown, hts⟩ (c_X3_thrown l G (bv_vw (sp_fetch X (xs (nI (5 * t) + 1).toNatClampNeg) (xs (nI (5 * t) + 2).toNatClampNeg)).2.2) (sp_fetch X (xs (nI (5 * t) + 1).toNatClampNeg) (xs (nI (5 * t) + 2).toNatClampNeg)).2.2 ((sp_fetch X (xs (nI (5 * t) + 1).toNatClampNeg) (xs (nI (5 * t) + 2).toNatClampNeg)).1, ((z.1, if (sp_fetch X (xs (nI (5 * t) + 1).toNatClampNeg) (xs (nI (5 * t) + 2).toNatClampNeg)).1 = 0 then (sp_fetch X (xs (nI (5 * t) + 1).toNatClampNeg) (xs (nI (5 * t) + 2).toNatClampNeg)).2.1.toInt64 else z.2)).2)) (cwV 0 hts gL_law_X3_thrown rfl rfl rfl (by decide +kernel) ⟨Nat.le_of_ble_eq_true rfl, Nat.le_of_ble_eq_true rfl⟩) (bv_preV hz9 hP hK hE hS (ci := 3) (bv_c43 G _ _ _) rfl rfl) rfl rfl hl.1 rfl (lv_room (Nat.le_of_ble_eq_true rfl)) dL_law_514 ⟨show cells + 3 + 0 + 0 ≤ 640723 by omega, show slots + 18 + 0 + 0 ≤ 7173936 by omega⟩) hS (fun H locs hP hS => ?_)
  refine lv_iload hx hb dL_law_517 (lv_at hl 1 rfl) ?_
  refine lv_icmp_eq (tgt := 524) hx hb dL_law_519 (by decide) (fun c_1 => ?_) (fun c_1 => absurd rfl c_1)
  refine lv_iload hx hb dL_law_524 (lv_at hl 1 rfl) ?_
  refine lv_if_ne (tgt := 541) hx hb dL_law_526 (by decide) (fun c_2 => ?_) (fun c_2 => ?_)
  · refine lv_goto (tgt := 1378) hx hb dL_law_541 (by decide) ?_
    exact fin  H locs ls _ hI9 hP hS (lv_sub hl [2, 3, 4, 5, 6] rfl)
  · skip
    refine lv_aload_n hx hb dL_law_529 rfl (lv_at hl 6 rfl) ?_
    refine lv_iconst (v := 0) hx hb dL_law_530 (by decide) ?_
    refine va_lald hx hb hK.2 hP 62 3 (bv_c62 G _ _ _) rfl (show vp_in (0 : Int32) 1 by unfold vp_in; decide) dL_law_531 ?_
    refine lv_iload hx hb dL_law_532 (lv_at hl 0 rfl) ?_
    refine lv_i2l hx hb dL_law_534 rfl ?_
    refine bv_lcmp hx hb (show (if (sp_fetch X (xs (nI (5 * t) + 1).toNatClampNeg) (xs (nI (5 * t) + 2).toNatClampNeg)).1 = 0 then (sp_fetch X (xs (nI (5 * t) + 1).toNatClampNeg) (xs (nI (5 * t) + 2).toNatClampNeg)).2.1.toInt64 else z.2) = _ by rw [if_pos c_2]) dL_law_535 ?_
    refine lv_if_eq (tgt := 541) hx hb dL_law_536 (by decide) (fun c_9 => ?_) (fun c_9 => absurd rfl c_9)
    refine lv_goto (tgt := 1378) hx hb dL_law_541 (by decide) ?_
    exact fin H locs ls _ hI9 hP hS (lv_sub hl [2, 3, 4, 5, 6] rfl)
set_option maxHeartbeats 1000000 in
set_option maxRecDepth 100000 in
theorem bv_case_proxy {p : Program} {e : Env} {s : State} {m : MethodId} {below : List Frame} {meth : Method} {c : Code} {Q : State → Prop} (l : Launch) (hlt : l.stackTraces = false) {b L t : Nat} {xs : Nat → Int32} {H : Heap} {locs : List Loc} {ls : Array Slot} {cells slots : Nat} (C0 : lw_At p s m meth c b L xs) (G : bv_G) (hz : bv_n G = s.heap.size) (hK : bv_K G s) (hE : bv_En G s s.heap) (X : bv_X) (z : bv_Z) (hI : bv_I t X) (ht : t ≤ 1000) (h5 : 5 * t + 5 ≤ L) (hL : L ≤ 2560) (hc : cells + 6 ≤ 640723) (hs : slots + 36 ≤ 7173936) (hP : bv_H G (bv_vw X) X z H) (hS : va_S (bv_A G) s.heap H locs) (hl : lv_has ls 7 [(4, .int (nI (5 * t))), (0, .ref b), (1, .ref (bv_a G 0)), (2, .ref (bv_a G 43)), (3, .ref (bv_a G 62))])
    (kk : ∀ (X' : bv_X) (z' : bv_Z) (H : Heap) (locs : List Loc) (ls : Array Slot), bv_I (t + 1) X' → bv_H G (bv_vw X') X' z' H → va_S (bv_A G) s.heap H locs → lv_has ls 7 [(4, .int (nI (5 * t))), (0, .ref b), (1, .ref (bv_a G 0)), (2, .ref (bv_a G 43)), (3, .ref (bv_a G 62))] → W p l e room_1 s m #[Value.ref b] below meth c H locs (cells + 6) (slots + 36) Q (F0 m 1378 ls [])) : W p l e room_1 s m #[Value.ref b] below meth c H locs cells slots Q (F0 m 544 ls []) := by
  obtain ⟨hx, hb, hr, hml, hown, hts, hX, hbl, hlocks, hgv⟩ := C0
  have hts : ∀ w ∈ wsL_law, w.before #[Value.ref b] s = true := fun w h => hts w (wsL_law_in w h)
  have hown : s.vm.findClass RL = some m.cls := hown
  have hbA : ¬ bv_A G b := by unfold bv_A; rw [hz]; exact Nat.not_le.mpr hbl
  have hz9 : bv_n G ≤ s.heap.size := Nat.le_of_eq hz
  have hv1 : vp_in (nI (5 * t) + 1) L := by rw [show (1 : Int32) = nI 1 from rfl, nI_add]; exact vp_in_nI (by omega) (by omega)
  have hv2 : vp_in (nI (5 * t) + 2) L := by rw [show (2 : Int32) = nI 2 from rfl, nI_add]; exact vp_in_nI (by omega) (by omega)
  have hv3 : vp_in (nI (5 * t) + 3) L := by rw [show (3 : Int32) = nI 3 from rfl, nI_add]; exact vp_in_nI (by omega) (by omega)
  have hv4 : vp_in (nI (5 * t) + 4) L := by rw [show (4 : Int32) = nI 4 from rfl, nI_add]; exact vp_in_nI (by omega) (by omega)
  have hI9 : bv_I (t + 1) (sp_proxy X (xs (nI (5 * t) + 1).toNatClampNeg) (xs (nI (5 * t) + 2).toNatClampNeg) (xs (nI (5 * t) + 3).toNatClampNeg) (xs (nI (5 * t) + 4).toNatClampNeg)).2.2 := bv_I_proxy hI _ _ _ _
  have fin : ∀ (H : Heap) (locs : List Loc) (ls : Array Slot) (z9 : bv_Z), bv_I (t + 1) (sp_proxy X (xs (nI (5 * t) + 1).toNatClampNeg) (xs (nI (5 * t) + 2).toNatClampNeg) (xs (nI (5 * t) + 3).toNatClampNeg) (xs (nI (5 * t) + 4).toNatClampNeg)).2.2 → bv_H G (bv_vw (sp_proxy X (xs (nI (5 * t) + 1).toNatClampNeg) (xs (nI (5 * t) + 2).toNatClampNeg) (xs (nI (5 * t) + 3).toNatClampNeg) (xs (nI (5 * t) + 4).toNatClampNeg)).2.2) (sp_proxy X (xs (nI (5 * t) + 1).toNatClampNeg) (xs (nI (5 * t) + 2).toNatClampNeg) (xs (nI (5 * t) + 3).toNatClampNeg) (xs (nI (5 * t) + 4).toNatClampNeg)).2.2 z9 H → va_S (bv_A G) s.heap H locs → lv_has ls 7 [(4, .int (nI (5 * t))), (0, .ref b), (1, .ref (bv_a G 0)), (2, .ref (bv_a G 43)), (3, .ref (bv_a G 62))] → W p l e room_1 s m #[Value.ref b] below meth c H locs (cells + 6 + 0 + 0) (slots + 36 + 0 + 0) Q (F0 m 1378 ls []) := fun H locs ls z9 h1 h2 h3 h4 => W.widen (k := cells + 6) (n := slots + 36) (by omega) (by omega) (kk _ z9 H locs ls h1 h2 h3 h4)
  refine lv_aload_n hx hb dL_law_544 rfl (lv_at hl 2 rfl) ?_
  refine lv_aload_n hx hb dL_law_545 rfl (lv_at hl 1 rfl) ?_
  refine lv_iload hx hb dL_law_546 (lv_at hl 0 rfl) ?_
  refine lv_iconst (v := 1) hx hb dL_law_548 (by decide) ?_
  refine lv_iadd hx hb dL_law_549 ?_
  refine va_sld hx hb hX hbl hbA hS hv1 dL_law_550 ?_
  refine lv_aload_n hx hb dL_law_551 rfl (lv_at hl 1 rfl) ?_
  refine lv_iload hx hb dL_law_552 (lv_at hl 0 rfl) ?_
  refine lv_iconst (v := 2) hx hb dL_law_554 (by decide) ?_
  refine lv_iadd hx hb dL_law_555 ?_
  refine va_sld hx hb hX hbl hbA hS hv2 dL_law_556 ?_
  refine lv_aload_n hx hb dL_law_557 rfl (lv_at hl 1 rfl) ?_
  refine lv_iload hx hb dL_law_558 (lv_at hl 0 rfl) ?_
  refine lv_iconst (v := 3) hx hb dL_law_560 (by decide) ?_
  refine lv_iadd hx hb dL_law_561 ?_
  refine va_sld hx hb hX hbl hbA hS hv3 dL_law_562 ?_
  refine lv_aload_n hx hb dL_law_563 rfl (lv_at hl 1 rfl) ?_
  refine lv_iload hx hb dL_law_564 (lv_at hl 0 rfl) ?_
  refine lv_iconst (v := 4) hx hb dL_law_566 (by decide) ?_
  refine lv_iadd hx hb dL_law_567 ?_
  refine va_sld hx hb hX hbl hbA hS hv4 dL_law_568 ?_
  refine lv_aload_n hx hb dL_law_569 rfl (lv_at hl 4 rfl) ?_
  refine bv_ci (vx_runSW (As := [.ref (bv_a G 0), .int (xs (nI (5 * t) + 1).toNatClampNeg), .int (xs (nI (5 * t) + 2).toNatClampNeg), .int (xs (nI (5 * t) + 3).toNatClampNeg), .int (xs (nI (5 * t) + 4).toNatClampNeg), .ref (bv_a G 62)]) (rest := []) ⟨hx, hb, hml, hown, hts⟩ (c_L_proxy l hlt G X X z t (xs (nI (5 * t) + 1).toNatClampNeg) (xs (nI (5 * t) + 2).toNatClampNeg) (xs (nI (5 * t) + 3).toNatClampNeg) (xs (nI (5 * t) + 4).toNatClampNeg) ht hI) (vx_cwSW 6 hts gL_law_L_proxy rfl rfl rfl (by decide +kernel) ⟨Nat.le_of_ble_eq_true rfl, Nat.le_of_ble_eq_true rfl⟩) (bv_preS hz9 hP hK hE hS) rfl rfl hl.1 rfl (lv_room (Nat.le_of_ble_eq_true rfl)) dL_law_570 ⟨show cells + 6 ≤ 640723 by omega, show slots + 36 ≤ 7173936 by omega⟩) hS (fun H locs hP hS => ?_)
  refine lv_istore (lv' := [(5, .int (sp_proxy X (xs (nI (5 * t) + 1).toNatClampNeg) (xs (nI (5 * t) + 2).toNatClampNeg) (xs (nI (5 * t) + 3).toNatClampNeg) (xs (nI (5 * t) + 4).toNatClampNeg)).1), (4, .int (nI (5 * t))), (0, .ref b), (1, .ref (bv_a G 0)), (2, .ref (bv_a G 43)), (3, .ref (bv_a G 62))]) hx hb dL_law_573 hl (by decide) rfl (fun ls hl => ?_)
  refine lv_aload_n hx hb dL_law_575 rfl (lv_at hl 4 rfl) ?_
  refine lv_aload_n hx hb dL_law_576 rfl (lv_at hl 2 rfl) ?_
  refine lv_iload hx hb dL_law_577 (lv_at hl 1 rfl) ?_
  refine lv_iconst (v := 1) hx hb dL_law_579 (by decide) ?_
  refine lv_iadd hx hb dL_law_580 ?_
  refine va_sld hx hb hX hbl hbA hS hv1 dL_law_581 ?_
  refine lv_aload_n hx hb dL_law_582 rfl (lv_at hl 2 rfl) ?_
  refine lv_iload hx hb dL_law_583 (lv_at hl 1 rfl) ?_
  refine lv_iconst (v := 2) hx hb dL_law_585 (by decide) ?_
  refine lv_iadd hx hb dL_law_586 ?_
  refine va_sld hx hb hX hbl hbA hS hv2 dL_law_587 ?_
  refine lv_aload_n hx hb dL_law_588 rfl (lv_at hl 2 rfl) ?_
  refine lv_iload hx hb dL_law_589 (lv_at hl 1 rfl) ?_
  refine lv_iconst (v := 3) hx hb dL_law_591 (by decide) ?_
  refine lv_iadd hx hb dL_law_592 ?_
  refine va_sld hx hb hX hbl hbA hS hv3 dL_law_593 ?_
  refine lv_aload_n hx hb dL_law_594 rfl (lv_at hl 2 rfl) ?_
  refine lv_iload hx hb dL_law_595 (lv_at hl 1 rfl) ?_
  refine lv_iconst (v := 4) hx hb dL_law_597 (by decide) ?_
  refine lv_iadd hx hb dL_law_598 ?_
  refine va_sld hx hb hX hbl hbA hS hv4 dL_law_599 ?_
  refine bv_ci (va_runV (As := [.int (xs (nI (5 * t) + 1).toNatClampNeg), .int (xs (nI (5 * t) + 2).toNatClampNeg), .int (xs (nI (5 * t) + 3).toNatClampNeg), .int (xs (nI (5 * t) + 4).toNatClampNeg)]) (rest := []) ⟨hx, hb, hml, hown, hts⟩ (c_X3_proxy l G (bv_vw (sp_proxy X (xs (nI (5 * t) + 1).toNatClampNeg) (xs (nI (5 * t) + 2).toNatClampNeg) (xs (nI (5 * t) + 3).toNatClampNeg) (xs (nI (5 * t) + 4).toNatClampNeg)).2.2) X (z.1, if (sp_proxy X (xs (nI (5 * t) + 1).toNatClampNeg) (xs (nI (5 * t) + 2).toNatClampNeg) (xs (nI (5 * t) + 3).toNatClampNeg) (xs (nI (5 * t) + 4).toNatClampNeg)).1 = 0 then (sp_proxy X (xs (nI (5 * t) + 1).toNatClampNeg) (xs (nI (5 * t) + 2).toNatClampNeg) (xs (nI (5 * t) + 3).toNatClampNeg) (xs (nI (5 * t) + 4).toNatClampNeg)).2.1.toInt64 else z.2) t (xs (nI (5 * t) + 1).toNatClampNeg) (xs (nI (5 * t) + 2).toNatClampNeg) (xs (nI (5 * t) + 3).toNatClampNeg) (xs (nI (5 * t) + 4).toNatClampNeg) ht hI) (cwV 4 hts gL_law_X3_proxy rfl rfl rfl (by decide +kernel) ⟨Nat.le_of_ble_eq_true rfl, Nat.le_of_ble_eq_true rfl⟩) (bv_preV hz9 hP hK hE hS (ci := 3) (bv_c43 G _ _ _) rfl rfl) rfl rfl hl.1 rfl (lv_room (Nat.le_of_ble_eq_true rfl)) dL_law_600 ⟨show cells + 6 + 0 ≤ 640723 by omega, show slots + 36 + 0 ≤ 7173936 by omega⟩) hS (fun H locs hP hS => ?_)
  refine lv_istore (lv' := [(6, .int (sp_proxy X (xs (nI (5 * t) + 1).toNatClampNeg) (xs (nI (5 * t) + 2).toNatClampNeg) (xs (nI (5 * t) + 3).toNatClampNeg) (xs (nI (5 * t) + 4).toNatClampNeg)).2.1), (5, .int (sp_proxy X (xs (nI (5 * t) + 1).toNatClampNeg) (xs (nI (5 * t) + 2).toNatClampNeg) (xs (nI (5 * t) + 3).toNatClampNeg) (xs (nI (5 * t) + 4).toNatClampNeg)).1), (4, .int (nI (5 * t))), (0, .ref b), (1, .ref (bv_a G 0)), (2, .ref (bv_a G 43)), (3, .ref (bv_a G 62))]) hx hb dL_law_603 hl (by decide) rfl (fun ls hl => ?_)
  refine lv_aload_n hx hb dL_law_605 rfl (lv_at hl 5 rfl) ?_
  refine bv_ci (va_runV (As := []) (rest := []) ⟨hx, hb, hml, hown, hts⟩ (c_X3_thrown l G (bv_vw (sp_proxy X (xs (nI (5 * t) + 1).toNatClampNeg) (xs (nI (5 * t) + 2).toNatClampNeg) (xs (nI (5 * t) + 3).toNatClampNeg) (xs (nI (5 * t) + 4).toNatClampNeg)).2.2) (sp_proxy X (xs (nI (5 * t) + 1).toNatClampNeg) (xs (nI (5 * t) + 2).toNatClampNeg) (xs (nI (5 * t) + 3).toNatClampNeg) (xs (nI (5 * t) + 4).toNatClampNeg)).2.2 ((sp_proxy X (xs (nI (5 * t) + 1).toNatClampNeg) (xs (nI (5 * t) + 2).toNatClampNeg) (xs (nI (5 * t) + 3).toNatClampNeg) (xs (nI (5 * t) + 4).toNatClampNeg)).1, ((z.1, if (sp_proxy X (xs (nI (5 * t) + 1).toNatClampNeg) (xs (nI (5 * t) + 2).toNatClampNeg) (xs (nI (5 * t) + 3).toNatClampNeg) (xs (nI (5 * t) + 4).toNatClampNeg)).1 = 0 then (sp_proxy X (xs (nI (5 * t) + 1).toNatClampNeg) (xs (nI (5 * t) + 2).toNatClampNeg) (xs (nI (5 * t) + 3).toNatClampNeg) (xs (nI (5 * t) + 4).toNatClampNeg)).2.1.toInt64 else z.2)).2)) (cwV 0 hts gL_law_X3_thrown rfl rfl rfl (by decide +kernel) ⟨Nat.le_of_ble_eq_true rfl, Nat.le_of_ble_eq_true rfl⟩) (bv_preV hz9 hP hK hE hS (ci := 3) (bv_c43 G _ _ _) rfl rfl) rfl rfl hl.1 rfl (lv_room (Nat.le_of_ble_eq_true rfl)) dL_law_606 ⟨show cells + 6 + 0 + 0 ≤ 640723 by omega, show slots + 36 + 0 + 0 ≤ 7173936 by omega⟩) hS (fun H locs hP hS => ?_)
  refine lv_iload hx hb dL_law_609 (lv_at hl 1 rfl) ?_
  refine lv_icmp_eq (tgt := 616) hx hb dL_law_611 (by decide) (fun c_1 => ?_) (fun c_1 => absurd rfl c_1)
  refine lv_iload hx hb dL_law_616 (lv_at hl 1 rfl) ?_
  refine lv_if_ne (tgt := 633) hx hb dL_law_618 (by decide) (fun c_2 => ?_) (fun c_2 => ?_)
  · refine lv_goto (tgt := 1378) hx hb dL_law_633 (by decide) ?_
    exact fin  H locs ls _ hI9 hP hS (lv_sub hl [2, 3, 4, 5, 6] rfl)
  · skip
    refine lv_aload_n hx hb dL_law_621 rfl (lv_at hl 6 rfl) ?_
    refine lv_iconst (v := 0) hx hb dL_law_622 (by decide) ?_
    refine va_lald hx hb hK.2 hP 62 3 (bv_c62 G _ _ _) rfl (show vp_in (0 : Int32) 1 by unfold vp_in; decide) dL_law_623 ?_
    refine lv_iload hx hb dL_law_624 (lv_at hl 0 rfl) ?_
    refine lv_i2l hx hb dL_law_626 rfl ?_
    refine bv_lcmp hx hb (show (if (sp_proxy X (xs (nI (5 * t) + 1).toNatClampNeg) (xs (nI (5 * t) + 2).toNatClampNeg) (xs (nI (5 * t) + 3).toNatClampNeg) (xs (nI (5 * t) + 4).toNatClampNeg)).1 = 0 then (sp_proxy X (xs (nI (5 * t) + 1).toNatClampNeg) (xs (nI (5 * t) + 2).toNatClampNeg) (xs (nI (5 * t) + 3).toNatClampNeg) (xs (nI (5 * t) + 4).toNatClampNeg)).2.1.toInt64 else z.2) = _ by rw [if_pos c_2]) dL_law_627 ?_
    refine lv_if_eq (tgt := 633) hx hb dL_law_628 (by decide) (fun c_9 => ?_) (fun c_9 => absurd rfl c_9)
    refine lv_goto (tgt := 1378) hx hb dL_law_633 (by decide) ?_
    exact fin H locs ls _ hI9 hP hS (lv_sub hl [2, 3, 4, 5, 6] rfl)
set_option maxHeartbeats 1000000 in
set_option maxRecDepth 100000 in
theorem bv_case_heir {p : Program} {e : Env} {s : State} {m : MethodId} {below : List Frame} {meth : Method} {c : Code} {Q : State → Prop} (l : Launch) (hlt : l.stackTraces = false) {b L t : Nat} {xs : Nat → Int32} {H : Heap} {locs : List Loc} {ls : Array Slot} {cells slots : Nat} (C0 : lw_At p s m meth c b L xs) (G : bv_G) (hz : bv_n G = s.heap.size) (hK : bv_K G s) (hE : bv_En G s s.heap) (X : bv_X) (z : bv_Z) (hI : bv_I t X) (ht : t ≤ 1000) (h5 : 5 * t + 5 ≤ L) (hL : L ≤ 2560) (hc : cells + 6 ≤ 640723) (hs : slots + 36 ≤ 7173936) (hP : bv_H G (bv_vw X) X z H) (hS : va_S (bv_A G) s.heap H locs) (hl : lv_has ls 7 [(4, .int (nI (5 * t))), (0, .ref b), (1, .ref (bv_a G 0)), (2, .ref (bv_a G 43)), (3, .ref (bv_a G 62))])
    (kk : ∀ (X' : bv_X) (z' : bv_Z) (H : Heap) (locs : List Loc) (ls : Array Slot), bv_I (t + 1) X' → bv_H G (bv_vw X') X' z' H → va_S (bv_A G) s.heap H locs → lv_has ls 7 [(4, .int (nI (5 * t))), (0, .ref b), (1, .ref (bv_a G 0)), (2, .ref (bv_a G 43)), (3, .ref (bv_a G 62))] → W p l e room_1 s m #[Value.ref b] below meth c H locs (cells + 6) (slots + 36) Q (F0 m 1378 ls [])) : W p l e room_1 s m #[Value.ref b] below meth c H locs cells slots Q (F0 m 636 ls []) := by
  obtain ⟨hx, hb, hr, hml, hown, hts, hX, hbl, hlocks, hgv⟩ := C0
  have hts : ∀ w ∈ wsL_law, w.before #[Value.ref b] s = true := fun w h => hts w (wsL_law_in w h)
  have hown : s.vm.findClass RL = some m.cls := hown
  have hbA : ¬ bv_A G b := by unfold bv_A; rw [hz]; exact Nat.not_le.mpr hbl
  have hz9 : bv_n G ≤ s.heap.size := Nat.le_of_eq hz
  have hv1 : vp_in (nI (5 * t) + 1) L := by rw [show (1 : Int32) = nI 1 from rfl, nI_add]; exact vp_in_nI (by omega) (by omega)
  have hv2 : vp_in (nI (5 * t) + 2) L := by rw [show (2 : Int32) = nI 2 from rfl, nI_add]; exact vp_in_nI (by omega) (by omega)
  have hv3 : vp_in (nI (5 * t) + 3) L := by rw [show (3 : Int32) = nI 3 from rfl, nI_add]; exact vp_in_nI (by omega) (by omega)
  by_cases c9 : (xs (nI (5 * t) + 3).toNatClampNeg) = 0
  · skip
    have hI9 : bv_I (t + 1) (sp_heir X (xs (nI (5 * t) + 1).toNatClampNeg) (xs (nI (5 * t) + 2).toNatClampNeg) 0).2.2 := bv_I_heir hI _ _ _
    have fin : ∀ (H : Heap) (locs : List Loc) (ls : Array Slot) (z9 : bv_Z), bv_I (t + 1) (sp_heir X (xs (nI (5 * t) + 1).toNatClampNeg) (xs (nI (5 * t) + 2).toNatClampNeg) 0).2.2 → bv_H G (bv_vw (sp_heir X (xs (nI (5 * t) + 1).toNatClampNeg) (xs (nI (5 * t) + 2).toNatClampNeg) 0).2.2) (sp_heir X (xs (nI (5 * t) + 1).toNatClampNeg) (xs (nI (5 * t) + 2).toNatClampNeg) 0).2.2 z9 H → va_S (bv_A G) s.heap H locs → lv_has ls 7 [(4, .int (nI (5 * t))), (0, .ref b), (1, .ref (bv_a G 0)), (2, .ref (bv_a G 43)), (3, .ref (bv_a G 62))] → W p l e room_1 s m #[Value.ref b] below meth c H locs (cells + 3 + 0 + 0) (slots + 18 + 0 + 0) Q (F0 m 1378 ls []) := fun H locs ls z9 h1 h2 h3 h4 => W.widen (k := cells + 6) (n := slots + 36) (by omega) (by omega) (kk _ z9 H locs ls h1 h2 h3 h4)
    refine lv_aload_n hx hb dL_law_636 rfl (lv_at hl 2 rfl) ?_
    refine lv_aload_n hx hb dL_law_637 rfl (lv_at hl 1 rfl) ?_
    refine lv_iload hx hb dL_law_638 (lv_at hl 0 rfl) ?_
    refine lv_iconst (v := 1) hx hb dL_law_640 (by decide) ?_
    refine lv_iadd hx hb dL_law_641 ?_
    refine va_sld hx hb hX hbl hbA hS hv1 dL_law_642 ?_
    refine lv_aload_n hx hb dL_law_643 rfl (lv_at hl 1 rfl) ?_
    refine lv_iload hx hb dL_law_644 (lv_at hl 0 rfl) ?_
    refine lv_iconst (v := 2) hx hb dL_law_646 (by decide) ?_
    refine lv_iadd hx hb dL_law_647 ?_
    refine va_sld hx hb hX hbl hbA hS hv2 dL_law_648 ?_
    refine lv_aload_n hx hb dL_law_649 rfl (lv_at hl 1 rfl) ?_
    refine lv_iload hx hb dL_law_650 (lv_at hl 0 rfl) ?_
    refine lv_iconst (v := 3) hx hb dL_law_652 (by decide) ?_
    refine lv_iadd hx hb dL_law_653 ?_
    refine va_sld hx hb hX hbl hbA hS hv3 dL_law_654 ?_
    refine lv_if_eq (tgt := 662) hx hb dL_law_655 (by decide) (fun c_8 => ?_) (fun c_8 => absurd c9 c_8)
    refine lv_iconst (v := 0) hx hb dL_law_662 (by decide) ?_
    refine lv_aload_n hx hb dL_law_663 rfl (lv_at hl 4 rfl) ?_
    refine bv_ci (vx_runSW (As := [.ref (bv_a G 0), .int (xs (nI (5 * t) + 1).toNatClampNeg), .int (xs (nI (5 * t) + 2).toNatClampNeg), .int 0, .ref (bv_a G 62)]) (rest := []) ⟨hx, hb, hml, hown, hts⟩ (c_L_heir l hlt G X X z t (xs (nI (5 * t) + 1).toNatClampNeg) (xs (nI (5 * t) + 2).toNatClampNeg) 0 ht hI) (vx_cwSW 5 hts gL_law_L_heir rfl rfl rfl (by decide +kernel) ⟨Nat.le_of_ble_eq_true rfl, Nat.le_of_ble_eq_true rfl⟩) (bv_preS hz9 hP hK hE hS) rfl rfl hl.1 rfl (lv_room (Nat.le_of_ble_eq_true rfl)) dL_law_664 ⟨show cells + 3 ≤ 640723 by omega, show slots + 18 ≤ 7173936 by omega⟩) hS (fun H locs hP hS => ?_)
    refine lv_istore (lv' := [(5, .int (sp_heir X (xs (nI (5 * t) + 1).toNatClampNeg) (xs (nI (5 * t) + 2).toNatClampNeg) 0).1), (4, .int (nI (5 * t))), (0, .ref b), (1, .ref (bv_a G 0)), (2, .ref (bv_a G 43)), (3, .ref (bv_a G 62))]) hx hb dL_law_667 hl (by decide) rfl (fun ls hl => ?_)
    refine lv_aload_n hx hb dL_law_669 rfl (lv_at hl 4 rfl) ?_
    refine lv_aload_n hx hb dL_law_670 rfl (lv_at hl 2 rfl) ?_
    refine lv_iload hx hb dL_law_671 (lv_at hl 1 rfl) ?_
    refine lv_iconst (v := 1) hx hb dL_law_673 (by decide) ?_
    refine lv_iadd hx hb dL_law_674 ?_
    refine va_sld hx hb hX hbl hbA hS hv1 dL_law_675 ?_
    refine lv_aload_n hx hb dL_law_676 rfl (lv_at hl 2 rfl) ?_
    refine lv_iload hx hb dL_law_677 (lv_at hl 1 rfl) ?_
    refine lv_iconst (v := 2) hx hb dL_law_679 (by decide) ?_
    refine lv_iadd hx hb dL_law_680 ?_
    refine va_sld hx hb hX hbl hbA hS hv2 dL_law_681 ?_
    refine lv_aload_n hx hb dL_law_682 rfl (lv_at hl 2 rfl) ?_
    refine lv_iload hx hb dL_law_683 (lv_at hl 1 rfl) ?_
    refine lv_iconst (v := 3) hx hb dL_law_685 (by decide) ?_
    refine lv_iadd hx hb dL_law_686 ?_
    refine va_sld hx hb hX hbl hbA hS hv3 dL_law_687 ?_
    refine lv_if_eq (tgt := 695) hx hb dL_law_688 (by decide) (fun c_8 => ?_) (fun c_8 => absurd c9 c_8)
    refine lv_iconst (v := 0) hx hb dL_law_695 (by decide) ?_
    refine bv_ci (va_runV (As := [.int (xs (nI (5 * t) + 1).toNatClampNeg), .int (xs (nI (5 * t) + 2).toNatClampNeg), .int 0]) (rest := []) ⟨hx, hb, hml, hown, hts⟩ (c_X3_heir l G (bv_vw (sp_heir X (xs (nI (5 * t) + 1).toNatClampNeg) (xs (nI (5 * t) + 2).toNatClampNeg) 0).2.2) X (z.1, if (sp_heir X (xs (nI (5 * t) + 1).toNatClampNeg) (xs (nI (5 * t) + 2).toNatClampNeg) 0).1 = 0 then (sp_heir X (xs (nI (5 * t) + 1).toNatClampNeg) (xs (nI (5 * t) + 2).toNatClampNeg) 0).2.1.toInt64 else z.2) t (xs (nI (5 * t) + 1).toNatClampNeg) (xs (nI (5 * t) + 2).toNatClampNeg) 0 ht hI) (cwV 3 hts gL_law_X3_heir rfl rfl rfl (by decide +kernel) ⟨Nat.le_of_ble_eq_true rfl, Nat.le_of_ble_eq_true rfl⟩) (bv_preV hz9 hP hK hE hS (ci := 3) (bv_c43 G _ _ _) rfl rfl) rfl rfl hl.1 rfl (lv_room (Nat.le_of_ble_eq_true rfl)) dL_law_696 ⟨show cells + 3 + 0 ≤ 640723 by omega, show slots + 18 + 0 ≤ 7173936 by omega⟩) hS (fun H locs hP hS => ?_)
    refine lv_istore (lv' := [(6, .int (sp_heir X (xs (nI (5 * t) + 1).toNatClampNeg) (xs (nI (5 * t) + 2).toNatClampNeg) 0).2.1), (5, .int (sp_heir X (xs (nI (5 * t) + 1).toNatClampNeg) (xs (nI (5 * t) + 2).toNatClampNeg) 0).1), (4, .int (nI (5 * t))), (0, .ref b), (1, .ref (bv_a G 0)), (2, .ref (bv_a G 43)), (3, .ref (bv_a G 62))]) hx hb dL_law_699 hl (by decide) rfl (fun ls hl => ?_)
    refine lv_aload_n hx hb dL_law_701 rfl (lv_at hl 5 rfl) ?_
    refine bv_ci (va_runV (As := []) (rest := []) ⟨hx, hb, hml, hown, hts⟩ (c_X3_thrown l G (bv_vw (sp_heir X (xs (nI (5 * t) + 1).toNatClampNeg) (xs (nI (5 * t) + 2).toNatClampNeg) 0).2.2) (sp_heir X (xs (nI (5 * t) + 1).toNatClampNeg) (xs (nI (5 * t) + 2).toNatClampNeg) 0).2.2 ((sp_heir X (xs (nI (5 * t) + 1).toNatClampNeg) (xs (nI (5 * t) + 2).toNatClampNeg) 0).1, ((z.1, if (sp_heir X (xs (nI (5 * t) + 1).toNatClampNeg) (xs (nI (5 * t) + 2).toNatClampNeg) 0).1 = 0 then (sp_heir X (xs (nI (5 * t) + 1).toNatClampNeg) (xs (nI (5 * t) + 2).toNatClampNeg) 0).2.1.toInt64 else z.2)).2)) (cwV 0 hts gL_law_X3_thrown rfl rfl rfl (by decide +kernel) ⟨Nat.le_of_ble_eq_true rfl, Nat.le_of_ble_eq_true rfl⟩) (bv_preV hz9 hP hK hE hS (ci := 3) (bv_c43 G _ _ _) rfl rfl) rfl rfl hl.1 rfl (lv_room (Nat.le_of_ble_eq_true rfl)) dL_law_702 ⟨show cells + 3 + 0 + 0 ≤ 640723 by omega, show slots + 18 + 0 + 0 ≤ 7173936 by omega⟩) hS (fun H locs hP hS => ?_)
    refine lv_iload hx hb dL_law_705 (lv_at hl 1 rfl) ?_
    refine lv_icmp_eq (tgt := 712) hx hb dL_law_707 (by decide) (fun c_1 => ?_) (fun c_1 => absurd rfl c_1)
    refine lv_iload hx hb dL_law_712 (lv_at hl 1 rfl) ?_
    refine lv_if_ne (tgt := 736) hx hb dL_law_714 (by decide) (fun c_2 => ?_) (fun c_2 => ?_)
    · refine lv_goto (tgt := 1378) hx hb dL_law_736 (by decide) ?_
      exact fin  H locs ls _ hI9 hP hS (lv_sub hl [2, 3, 4, 5, 6] rfl)
    · skip
      refine lv_aload_n hx hb dL_law_717 rfl (lv_at hl 6 rfl) ?_
      refine lv_iconst (v := 0) hx hb dL_law_718 (by decide) ?_
      refine va_lald hx hb hK.2 hP 62 3 (bv_c62 G _ _ _) rfl (show vp_in (0 : Int32) 1 by unfold vp_in; decide) dL_law_719 ?_
      refine lv_iload hx hb dL_law_720 (lv_at hl 0 rfl) ?_
      refine bv_bool (w := (sp_heir X (xs (nI (5 * t) + 1).toNatClampNeg) (xs (nI (5 * t) + 2).toNatClampNeg) 0).2.1.toInt64) s01_heir (tgt1 := 729) (tgt2 := 730) rfl hx hb dL_law_722 dL_law_725 dL_law_726 dL_law_729 (by decide) (by decide) rfl ?_
      refine bv_lcmp hx hb (show (if (sp_heir X (xs (nI (5 * t) + 1).toNatClampNeg) (xs (nI (5 * t) + 2).toNatClampNeg) 0).1 = 0 then (sp_heir X (xs (nI (5 * t) + 1).toNatClampNeg) (xs (nI (5 * t) + 2).toNatClampNeg) 0).2.1.toInt64 else z.2) = _ by rw [if_pos c_2]) dL_law_730 ?_
      refine lv_if_eq (tgt := 736) hx hb dL_law_731 (by decide) (fun c_9 => ?_) (fun c_9 => absurd rfl c_9)
      refine lv_goto (tgt := 1378) hx hb dL_law_736 (by decide) ?_
      exact fin H locs ls _ hI9 hP hS (lv_sub hl [2, 3, 4, 5, 6] rfl)
  · skip
    have hI9 : bv_I (t + 1) (sp_heir X (xs (nI (5 * t) + 1).toNatClampNeg) (xs (nI (5 * t) + 2).toNatClampNeg) 1).2.2 := bv_I_heir hI _ _ _
    have fin : ∀ (H : Heap) (locs : List Loc) (ls : Array Slot) (z9 : bv_Z), bv_I (t + 1) (sp_heir X (xs (nI (5 * t) + 1).toNatClampNeg) (xs (nI (5 * t) + 2).toNatClampNeg) 1).2.2 → bv_H G (bv_vw (sp_heir X (xs (nI (5 * t) + 1).toNatClampNeg) (xs (nI (5 * t) + 2).toNatClampNeg) 1).2.2) (sp_heir X (xs (nI (5 * t) + 1).toNatClampNeg) (xs (nI (5 * t) + 2).toNatClampNeg) 1).2.2 z9 H → va_S (bv_A G) s.heap H locs → lv_has ls 7 [(4, .int (nI (5 * t))), (0, .ref b), (1, .ref (bv_a G 0)), (2, .ref (bv_a G 43)), (3, .ref (bv_a G 62))] → W p l e room_1 s m #[Value.ref b] below meth c H locs (cells + 3 + 0 + 0) (slots + 18 + 0 + 0) Q (F0 m 1378 ls []) := fun H locs ls z9 h1 h2 h3 h4 => W.widen (k := cells + 6) (n := slots + 36) (by omega) (by omega) (kk _ z9 H locs ls h1 h2 h3 h4)
    refine lv_aload_n hx hb dL_law_636 rfl (lv_at hl 2 rfl) ?_
    refine lv_aload_n hx hb dL_law_637 rfl (lv_at hl 1 rfl) ?_
    refine lv_iload hx hb dL_law_638 (lv_at hl 0 rfl) ?_
    refine lv_iconst (v := 1) hx hb dL_law_640 (by decide) ?_
    refine lv_iadd hx hb dL_law_641 ?_
    refine va_sld hx hb hX hbl hbA hS hv1 dL_law_642 ?_
    refine lv_aload_n hx hb dL_law_643 rfl (lv_at hl 1 rfl) ?_
    refine lv_iload hx hb dL_law_644 (lv_at hl 0 rfl) ?_
    refine lv_iconst (v := 2) hx hb dL_law_646 (by decide) ?_
    refine lv_iadd hx hb dL_law_647 ?_
    refine va_sld hx hb hX hbl hbA hS hv2 dL_law_648 ?_
    refine lv_aload_n hx hb dL_law_649 rfl (lv_at hl 1 rfl) ?_
    refine lv_iload hx hb dL_law_650 (lv_at hl 0 rfl) ?_
    refine lv_iconst (v := 3) hx hb dL_law_652 (by decide) ?_
    refine lv_iadd hx hb dL_law_653 ?_
    refine va_sld hx hb hX hbl hbA hS hv3 dL_law_654 ?_
    refine lv_if_eq (tgt := 662) hx hb dL_law_655 (by decide) (fun c_8 => absurd c_8 c9) (fun c_8 => ?_)
    refine lv_iconst (v := 1) hx hb dL_law_658 (by decide) ?_
    refine lv_goto (tgt := 663) hx hb dL_law_659 (by decide) ?_
    refine lv_aload_n hx hb dL_law_663 rfl (lv_at hl 4 rfl) ?_
    refine bv_ci (vx_runSW (As := [.ref (bv_a G 0), .int (xs (nI (5 * t) + 1).toNatClampNeg), .int (xs (nI (5 * t) + 2).toNatClampNeg), .int 1, .ref (bv_a G 62)]) (rest := []) ⟨hx, hb, hml, hown, hts⟩ (c_L_heir l hlt G X X z t (xs (nI (5 * t) + 1).toNatClampNeg) (xs (nI (5 * t) + 2).toNatClampNeg) 1 ht hI) (vx_cwSW 5 hts gL_law_L_heir rfl rfl rfl (by decide +kernel) ⟨Nat.le_of_ble_eq_true rfl, Nat.le_of_ble_eq_true rfl⟩) (bv_preS hz9 hP hK hE hS) rfl rfl hl.1 rfl (lv_room (Nat.le_of_ble_eq_true rfl)) dL_law_664 ⟨show cells + 3 ≤ 640723 by omega, show slots + 18 ≤ 7173936 by omega⟩) hS (fun H locs hP hS => ?_)
    refine lv_istore (lv' := [(5, .int (sp_heir X (xs (nI (5 * t) + 1).toNatClampNeg) (xs (nI (5 * t) + 2).toNatClampNeg) 1).1), (4, .int (nI (5 * t))), (0, .ref b), (1, .ref (bv_a G 0)), (2, .ref (bv_a G 43)), (3, .ref (bv_a G 62))]) hx hb dL_law_667 hl (by decide) rfl (fun ls hl => ?_)
    refine lv_aload_n hx hb dL_law_669 rfl (lv_at hl 4 rfl) ?_
    refine lv_aload_n hx hb dL_law_670 rfl (lv_at hl 2 rfl) ?_
    refine lv_iload hx hb dL_law_671 (lv_at hl 1 rfl) ?_
    refine lv_iconst (v := 1) hx hb dL_law_673 (by decide) ?_
    refine lv_iadd hx hb dL_law_674 ?_
    refine va_sld hx hb hX hbl hbA hS hv1 dL_law_675 ?_
    refine lv_aload_n hx hb dL_law_676 rfl (lv_at hl 2 rfl) ?_
    refine lv_iload hx hb dL_law_677 (lv_at hl 1 rfl) ?_
    refine lv_iconst (v := 2) hx hb dL_law_679 (by decide) ?_
    refine lv_iadd hx hb dL_law_680 ?_
    refine va_sld hx hb hX hbl hbA hS hv2 dL_law_681 ?_
    refine lv_aload_n hx hb dL_law_682 rfl (lv_at hl 2 rfl) ?_
    refine lv_iload hx hb dL_law_683 (lv_at hl 1 rfl) ?_
    refine lv_iconst (v := 3) hx hb dL_law_685 (by decide) ?_
    refine lv_iadd hx hb dL_law_686 ?_
    refine va_sld hx hb hX hbl hbA hS hv3 dL_law_687 ?_
    refine lv_if_eq (tgt := 695) hx hb dL_law_688 (by decide) (fun c_8 => absurd c_8 c9) (fun c_8 => ?_)
    refine lv_iconst (v := 1) hx hb dL_law_691 (by decide) ?_
    refine lv_goto (tgt := 696) hx hb dL_law_692 (by decide) ?_
    refine bv_ci (va_runV (As := [.int (xs (nI (5 * t) + 1).toNatClampNeg), .int (xs (nI (5 * t) + 2).toNatClampNeg), .int 1]) (rest := []) ⟨hx, hb, hml, hown, hts⟩ (c_X3_heir l G (bv_vw (sp_heir X (xs (nI (5 * t) + 1).toNatClampNeg) (xs (nI (5 * t) + 2).toNatClampNeg) 1).2.2) X (z.1, if (sp_heir X (xs (nI (5 * t) + 1).toNatClampNeg) (xs (nI (5 * t) + 2).toNatClampNeg) 1).1 = 0 then (sp_heir X (xs (nI (5 * t) + 1).toNatClampNeg) (xs (nI (5 * t) + 2).toNatClampNeg) 1).2.1.toInt64 else z.2) t (xs (nI (5 * t) + 1).toNatClampNeg) (xs (nI (5 * t) + 2).toNatClampNeg) 1 ht hI) (cwV 3 hts gL_law_X3_heir rfl rfl rfl (by decide +kernel) ⟨Nat.le_of_ble_eq_true rfl, Nat.le_of_ble_eq_true rfl⟩) (bv_preV hz9 hP hK hE hS (ci := 3) (bv_c43 G _ _ _) rfl rfl) rfl rfl hl.1 rfl (lv_room (Nat.le_of_ble_eq_true rfl)) dL_law_696 ⟨show cells + 3 + 0 ≤ 640723 by omega, show slots + 18 + 0 ≤ 7173936 by omega⟩) hS (fun H locs hP hS => ?_)
    refine lv_istore (lv' := [(6, .int (sp_heir X (xs (nI (5 * t) + 1).toNatClampNeg) (xs (nI (5 * t) + 2).toNatClampNeg) 1).2.1), (5, .int (sp_heir X (xs (nI (5 * t) + 1).toNatClampNeg) (xs (nI (5 * t) + 2).toNatClampNeg) 1).1), (4, .int (nI (5 * t))), (0, .ref b), (1, .ref (bv_a G 0)), (2, .ref (bv_a G 43)), (3, .ref (bv_a G 62))]) hx hb dL_law_699 hl (by decide) rfl (fun ls hl => ?_)
    refine lv_aload_n hx hb dL_law_701 rfl (lv_at hl 5 rfl) ?_
    refine bv_ci (va_runV (As := []) (rest := []) ⟨hx, hb, hml, hown, hts⟩ (c_X3_thrown l G (bv_vw (sp_heir X (xs (nI (5 * t) + 1).toNatClampNeg) (xs (nI (5 * t) + 2).toNatClampNeg) 1).2.2) (sp_heir X (xs (nI (5 * t) + 1).toNatClampNeg) (xs (nI (5 * t) + 2).toNatClampNeg) 1).2.2 ((sp_heir X (xs (nI (5 * t) + 1).toNatClampNeg) (xs (nI (5 * t) + 2).toNatClampNeg) 1).1, ((z.1, if (sp_heir X (xs (nI (5 * t) + 1).toNatClampNeg) (xs (nI (5 * t) + 2).toNatClampNeg) 1).1 = 0 then (sp_heir X (xs (nI (5 * t) + 1).toNatClampNeg) (xs (nI (5 * t) + 2).toNatClampNeg) 1).2.1.toInt64 else z.2)).2)) (cwV 0 hts gL_law_X3_thrown rfl rfl rfl (by decide +kernel) ⟨Nat.le_of_ble_eq_true rfl, Nat.le_of_ble_eq_true rfl⟩) (bv_preV hz9 hP hK hE hS (ci := 3) (bv_c43 G _ _ _) rfl rfl) rfl rfl hl.1 rfl (lv_room (Nat.le_of_ble_eq_true rfl)) dL_law_702 ⟨show cells + 3 + 0 + 0 ≤ 640723 by omega, show slots + 18 + 0 + 0 ≤ 7173936 by omega⟩) hS (fun H locs hP hS => ?_)
    refine lv_iload hx hb dL_law_705 (lv_at hl 1 rfl) ?_
    refine lv_icmp_eq (tgt := 712) hx hb dL_law_707 (by decide) (fun c_1 => ?_) (fun c_1 => absurd rfl c_1)
    refine lv_iload hx hb dL_law_712 (lv_at hl 1 rfl) ?_
    refine lv_if_ne (tgt := 736) hx hb dL_law_714 (by decide) (fun c_2 => ?_) (fun c_2 => ?_)
    · refine lv_goto (tgt := 1378) hx hb dL_law_736 (by decide) ?_
      exact fin  H locs ls _ hI9 hP hS (lv_sub hl [2, 3, 4, 5, 6] rfl)
    · skip
      refine lv_aload_n hx hb dL_law_717 rfl (lv_at hl 6 rfl) ?_
      refine lv_iconst (v := 0) hx hb dL_law_718 (by decide) ?_
      refine va_lald hx hb hK.2 hP 62 3 (bv_c62 G _ _ _) rfl (show vp_in (0 : Int32) 1 by unfold vp_in; decide) dL_law_719 ?_
      refine lv_iload hx hb dL_law_720 (lv_at hl 0 rfl) ?_
      refine bv_bool (w := (sp_heir X (xs (nI (5 * t) + 1).toNatClampNeg) (xs (nI (5 * t) + 2).toNatClampNeg) 1).2.1.toInt64) s01_heir (tgt1 := 729) (tgt2 := 730) rfl hx hb dL_law_722 dL_law_725 dL_law_726 dL_law_729 (by decide) (by decide) rfl ?_
      refine bv_lcmp hx hb (show (if (sp_heir X (xs (nI (5 * t) + 1).toNatClampNeg) (xs (nI (5 * t) + 2).toNatClampNeg) 1).1 = 0 then (sp_heir X (xs (nI (5 * t) + 1).toNatClampNeg) (xs (nI (5 * t) + 2).toNatClampNeg) 1).2.1.toInt64 else z.2) = _ by rw [if_pos c_2]) dL_law_730 ?_
      refine lv_if_eq (tgt := 736) hx hb dL_law_731 (by decide) (fun c_9 => ?_) (fun c_9 => absurd rfl c_9)
      refine lv_goto (tgt := 1378) hx hb dL_law_736 (by decide) ?_
      exact fin H locs ls _ hI9 hP hS (lv_sub hl [2, 3, 4, 5, 6] rfl)
set_option maxHeartbeats 1000000 in
set_option maxRecDepth 100000 in
theorem bv_case_die {p : Program} {e : Env} {s : State} {m : MethodId} {below : List Frame} {meth : Method} {c : Code} {Q : State → Prop} (l : Launch) (hlt : l.stackTraces = false) {b L t : Nat} {xs : Nat → Int32} {H : Heap} {locs : List Loc} {ls : Array Slot} {cells slots : Nat} (C0 : lw_At p s m meth c b L xs) (G : bv_G) (hz : bv_n G = s.heap.size) (hK : bv_K G s) (hE : bv_En G s s.heap) (X : bv_X) (z : bv_Z) (hI : bv_I t X) (ht : t ≤ 1000) (h5 : 5 * t + 5 ≤ L) (hL : L ≤ 2560) (hc : cells + 6 ≤ 640723) (hs : slots + 36 ≤ 7173936) (hP : bv_H G (bv_vw X) X z H) (hS : va_S (bv_A G) s.heap H locs) (hl : lv_has ls 7 [(4, .int (nI (5 * t))), (0, .ref b), (1, .ref (bv_a G 0)), (2, .ref (bv_a G 43)), (3, .ref (bv_a G 62))])
    (kk : ∀ (X' : bv_X) (z' : bv_Z) (H : Heap) (locs : List Loc) (ls : Array Slot), bv_I (t + 1) X' → bv_H G (bv_vw X') X' z' H → va_S (bv_A G) s.heap H locs → lv_has ls 7 [(4, .int (nI (5 * t))), (0, .ref b), (1, .ref (bv_a G 0)), (2, .ref (bv_a G 43)), (3, .ref (bv_a G 62))] → W p l e room_1 s m #[Value.ref b] below meth c H locs (cells + 6) (slots + 36) Q (F0 m 1378 ls [])) : W p l e room_1 s m #[Value.ref b] below meth c H locs cells slots Q (F0 m 739 ls []) := by
  obtain ⟨hx, hb, hr, hml, hown, hts, hX, hbl, hlocks, hgv⟩ := C0
  have hts : ∀ w ∈ wsL_law, w.before #[Value.ref b] s = true := fun w h => hts w (wsL_law_in w h)
  have hown : s.vm.findClass RL = some m.cls := hown
  have hbA : ¬ bv_A G b := by unfold bv_A; rw [hz]; exact Nat.not_le.mpr hbl
  have hz9 : bv_n G ≤ s.heap.size := Nat.le_of_eq hz
  have hv1 : vp_in (nI (5 * t) + 1) L := by rw [show (1 : Int32) = nI 1 from rfl, nI_add]; exact vp_in_nI (by omega) (by omega)
  have hI9 : bv_I (t + 1) (sp_die X (xs (nI (5 * t) + 1).toNatClampNeg)).2.2 := bv_I_die hI _
  have fin : ∀ (H : Heap) (locs : List Loc) (ls : Array Slot) (z9 : bv_Z), bv_I (t + 1) (sp_die X (xs (nI (5 * t) + 1).toNatClampNeg)).2.2 → bv_H G (bv_vw (sp_die X (xs (nI (5 * t) + 1).toNatClampNeg)).2.2) (sp_die X (xs (nI (5 * t) + 1).toNatClampNeg)).2.2 z9 H → va_S (bv_A G) s.heap H locs → lv_has ls 7 [(4, .int (nI (5 * t))), (0, .ref b), (1, .ref (bv_a G 0)), (2, .ref (bv_a G 43)), (3, .ref (bv_a G 62))] → W p l e room_1 s m #[Value.ref b] below meth c H locs (cells + 2 + 0 + 0) (slots + 12 + 0 + 0) Q (F0 m 1378 ls []) := fun H locs ls z9 h1 h2 h3 h4 => W.widen (k := cells + 6) (n := slots + 36) (by omega) (by omega) (kk _ z9 H locs ls h1 h2 h3 h4)
  refine lv_aload_n hx hb dL_law_739 rfl (lv_at hl 2 rfl) ?_
  refine lv_aload_n hx hb dL_law_740 rfl (lv_at hl 1 rfl) ?_
  refine lv_iload hx hb dL_law_741 (lv_at hl 0 rfl) ?_
  refine lv_iconst (v := 1) hx hb dL_law_743 (by decide) ?_
  refine lv_iadd hx hb dL_law_744 ?_
  refine va_sld hx hb hX hbl hbA hS hv1 dL_law_745 ?_
  refine lv_aload_n hx hb dL_law_746 rfl (lv_at hl 4 rfl) ?_
  refine bv_ci (vx_runSW (As := [.ref (bv_a G 0), .int (xs (nI (5 * t) + 1).toNatClampNeg), .ref (bv_a G 62)]) (rest := []) ⟨hx, hb, hml, hown, hts⟩ (c_L_die l hlt G X X z t (xs (nI (5 * t) + 1).toNatClampNeg) ht hI) (vx_cwSW 3 hts gL_law_L_die rfl rfl rfl (by decide +kernel) ⟨Nat.le_of_ble_eq_true rfl, Nat.le_of_ble_eq_true rfl⟩) (bv_preS hz9 hP hK hE hS) rfl rfl hl.1 rfl (lv_room (Nat.le_of_ble_eq_true rfl)) dL_law_747 ⟨show cells + 2 ≤ 640723 by omega, show slots + 12 ≤ 7173936 by omega⟩) hS (fun H locs hP hS => ?_)
  refine lv_istore (lv' := [(5, .int (sp_die X (xs (nI (5 * t) + 1).toNatClampNeg)).1), (4, .int (nI (5 * t))), (0, .ref b), (1, .ref (bv_a G 0)), (2, .ref (bv_a G 43)), (3, .ref (bv_a G 62))]) hx hb dL_law_750 hl (by decide) rfl (fun ls hl => ?_)
  refine lv_aload_n hx hb dL_law_752 rfl (lv_at hl 4 rfl) ?_
  refine lv_aload_n hx hb dL_law_753 rfl (lv_at hl 2 rfl) ?_
  refine lv_iload hx hb dL_law_754 (lv_at hl 1 rfl) ?_
  refine lv_iconst (v := 1) hx hb dL_law_756 (by decide) ?_
  refine lv_iadd hx hb dL_law_757 ?_
  refine va_sld hx hb hX hbl hbA hS hv1 dL_law_758 ?_
  refine bv_ci (va_runV (As := [.int (xs (nI (5 * t) + 1).toNatClampNeg)]) (rest := []) ⟨hx, hb, hml, hown, hts⟩ (c_X3_die l G (bv_vw (sp_die X (xs (nI (5 * t) + 1).toNatClampNeg)).2.2) X (z.1, if (sp_die X (xs (nI (5 * t) + 1).toNatClampNeg)).1 = 0 then (sp_die X (xs (nI (5 * t) + 1).toNatClampNeg)).2.1.toInt64 else z.2) t (xs (nI (5 * t) + 1).toNatClampNeg) ht hI) (cwV 1 hts gL_law_X3_die rfl rfl rfl (by decide +kernel) ⟨Nat.le_of_ble_eq_true rfl, Nat.le_of_ble_eq_true rfl⟩) (bv_preV hz9 hP hK hE hS (ci := 3) (bv_c43 G _ _ _) rfl rfl) rfl rfl hl.1 rfl (lv_room (Nat.le_of_ble_eq_true rfl)) dL_law_759 ⟨show cells + 2 + 0 ≤ 640723 by omega, show slots + 12 + 0 ≤ 7173936 by omega⟩) hS (fun H locs hP hS => ?_)
  refine lv_istore (lv' := [(6, .int (sp_die X (xs (nI (5 * t) + 1).toNatClampNeg)).2.1), (5, .int (sp_die X (xs (nI (5 * t) + 1).toNatClampNeg)).1), (4, .int (nI (5 * t))), (0, .ref b), (1, .ref (bv_a G 0)), (2, .ref (bv_a G 43)), (3, .ref (bv_a G 62))]) hx hb dL_law_762 hl (by decide) rfl (fun ls hl => ?_)
  refine lv_aload_n hx hb dL_law_764 rfl (lv_at hl 5 rfl) ?_
  refine bv_ci (va_runV (As := []) (rest := []) ⟨hx, hb, hml, hown, hts⟩ (c_X3_thrown l G (bv_vw (sp_die X (xs (nI (5 * t) + 1).toNatClampNeg)).2.2) (sp_die X (xs (nI (5 * t) + 1).toNatClampNeg)).2.2 ((sp_die X (xs (nI (5 * t) + 1).toNatClampNeg)).1, ((z.1, if (sp_die X (xs (nI (5 * t) + 1).toNatClampNeg)).1 = 0 then (sp_die X (xs (nI (5 * t) + 1).toNatClampNeg)).2.1.toInt64 else z.2)).2)) (cwV 0 hts gL_law_X3_thrown rfl rfl rfl (by decide +kernel) ⟨Nat.le_of_ble_eq_true rfl, Nat.le_of_ble_eq_true rfl⟩) (bv_preV hz9 hP hK hE hS (ci := 3) (bv_c43 G _ _ _) rfl rfl) rfl rfl hl.1 rfl (lv_room (Nat.le_of_ble_eq_true rfl)) dL_law_765 ⟨show cells + 2 + 0 + 0 ≤ 640723 by omega, show slots + 12 + 0 + 0 ≤ 7173936 by omega⟩) hS (fun H locs hP hS => ?_)
  refine lv_iload hx hb dL_law_768 (lv_at hl 1 rfl) ?_
  refine lv_icmp_eq (tgt := 775) hx hb dL_law_770 (by decide) (fun c_1 => ?_) (fun c_1 => absurd rfl c_1)
  refine lv_iload hx hb dL_law_775 (lv_at hl 1 rfl) ?_
  refine lv_if_ne (tgt := 792) hx hb dL_law_777 (by decide) (fun c_2 => ?_) (fun c_2 => ?_)
  · refine lv_goto (tgt := 1378) hx hb dL_law_792 (by decide) ?_
    exact fin  H locs ls _ hI9 hP hS (lv_sub hl [2, 3, 4, 5, 6] rfl)
  · skip
    refine lv_aload_n hx hb dL_law_780 rfl (lv_at hl 6 rfl) ?_
    refine lv_iconst (v := 0) hx hb dL_law_781 (by decide) ?_
    refine va_lald hx hb hK.2 hP 62 3 (bv_c62 G _ _ _) rfl (show vp_in (0 : Int32) 1 by unfold vp_in; decide) dL_law_782 ?_
    refine lv_iload hx hb dL_law_783 (lv_at hl 0 rfl) ?_
    refine lv_i2l hx hb dL_law_785 rfl ?_
    refine bv_lcmp hx hb (show (if (sp_die X (xs (nI (5 * t) + 1).toNatClampNeg)).1 = 0 then (sp_die X (xs (nI (5 * t) + 1).toNatClampNeg)).2.1.toInt64 else z.2) = _ by rw [if_pos c_2]) dL_law_786 ?_
    refine lv_if_eq (tgt := 792) hx hb dL_law_787 (by decide) (fun c_9 => ?_) (fun c_9 => absurd rfl c_9)
    refine lv_goto (tgt := 1378) hx hb dL_law_792 (by decide) ?_
    exact fin H locs ls _ hI9 hP hS (lv_sub hl [2, 3, 4, 5, 6] rfl)
set_option maxHeartbeats 1000000 in
set_option maxRecDepth 100000 in
theorem bv_case_order {p : Program} {e : Env} {s : State} {m : MethodId} {below : List Frame} {meth : Method} {c : Code} {Q : State → Prop} (l : Launch) (hlt : l.stackTraces = false) {b L t : Nat} {xs : Nat → Int32} {H : Heap} {locs : List Loc} {ls : Array Slot} {cells slots : Nat} (C0 : lw_At p s m meth c b L xs) (G : bv_G) (hz : bv_n G = s.heap.size) (hK : bv_K G s) (hE : bv_En G s s.heap) (X : bv_X) (z : bv_Z) (hI : bv_I t X) (ht : t ≤ 1000) (h5 : 5 * t + 5 ≤ L) (hL : L ≤ 2560) (hc : cells + 6 ≤ 640723) (hs : slots + 36 ≤ 7173936) (hP : bv_H G (bv_vw X) X z H) (hS : va_S (bv_A G) s.heap H locs) (hl : lv_has ls 7 [(4, .int (nI (5 * t))), (0, .ref b), (1, .ref (bv_a G 0)), (2, .ref (bv_a G 43)), (3, .ref (bv_a G 62))])
    (kk : ∀ (X' : bv_X) (z' : bv_Z) (H : Heap) (locs : List Loc) (ls : Array Slot), bv_I (t + 1) X' → bv_H G (bv_vw X') X' z' H → va_S (bv_A G) s.heap H locs → lv_has ls 7 [(4, .int (nI (5 * t))), (0, .ref b), (1, .ref (bv_a G 0)), (2, .ref (bv_a G 43)), (3, .ref (bv_a G 62))] → W p l e room_1 s m #[Value.ref b] below meth c H locs (cells + 6) (slots + 36) Q (F0 m 1378 ls [])) : W p l e room_1 s m #[Value.ref b] below meth c H locs cells slots Q (F0 m 795 ls []) := by
  obtain ⟨hx, hb, hr, hml, hown, hts, hX, hbl, hlocks, hgv⟩ := C0
  have hts : ∀ w ∈ wsL_law, w.before #[Value.ref b] s = true := fun w h => hts w (wsL_law_in w h)
  have hown : s.vm.findClass RL = some m.cls := hown
  have hbA : ¬ bv_A G b := by unfold bv_A; rw [hz]; exact Nat.not_le.mpr hbl
  have hz9 : bv_n G ≤ s.heap.size := Nat.le_of_eq hz
  have hv1 : vp_in (nI (5 * t) + 1) L := by rw [show (1 : Int32) = nI 1 from rfl, nI_add]; exact vp_in_nI (by omega) (by omega)
  have hv2 : vp_in (nI (5 * t) + 2) L := by rw [show (2 : Int32) = nI 2 from rfl, nI_add]; exact vp_in_nI (by omega) (by omega)
  have hv3 : vp_in (nI (5 * t) + 3) L := by rw [show (3 : Int32) = nI 3 from rfl, nI_add]; exact vp_in_nI (by omega) (by omega)
  have hv4 : vp_in (nI (5 * t) + 4) L := by rw [show (4 : Int32) = nI 4 from rfl, nI_add]; exact vp_in_nI (by omega) (by omega)
  have hI9 : bv_I (t + 1) (sp_order X (xs (nI (5 * t) + 1).toNatClampNeg) (xs (nI (5 * t) + 2).toNatClampNeg) (xs (nI (5 * t) + 3).toNatClampNeg) (xs (nI (5 * t) + 4).toNatClampNeg)).2.2 := bv_I_order hI _ _ _ _
  have fin : ∀ (H : Heap) (locs : List Loc) (ls : Array Slot) (z9 : bv_Z), bv_I (t + 1) (sp_order X (xs (nI (5 * t) + 1).toNatClampNeg) (xs (nI (5 * t) + 2).toNatClampNeg) (xs (nI (5 * t) + 3).toNatClampNeg) (xs (nI (5 * t) + 4).toNatClampNeg)).2.2 → bv_H G (bv_vw (sp_order X (xs (nI (5 * t) + 1).toNatClampNeg) (xs (nI (5 * t) + 2).toNatClampNeg) (xs (nI (5 * t) + 3).toNatClampNeg) (xs (nI (5 * t) + 4).toNatClampNeg)).2.2) (sp_order X (xs (nI (5 * t) + 1).toNatClampNeg) (xs (nI (5 * t) + 2).toNatClampNeg) (xs (nI (5 * t) + 3).toNatClampNeg) (xs (nI (5 * t) + 4).toNatClampNeg)).2.2 z9 H → va_S (bv_A G) s.heap H locs → lv_has ls 7 [(4, .int (nI (5 * t))), (0, .ref b), (1, .ref (bv_a G 0)), (2, .ref (bv_a G 43)), (3, .ref (bv_a G 62))] → W p l e room_1 s m #[Value.ref b] below meth c H locs (cells + 5 + 0 + 0) (slots + 30 + 0 + 0) Q (F0 m 1378 ls []) := fun H locs ls z9 h1 h2 h3 h4 => W.widen (k := cells + 6) (n := slots + 36) (by omega) (by omega) (kk _ z9 H locs ls h1 h2 h3 h4)
  refine lv_aload_n hx hb dL_law_795 rfl (lv_at hl 2 rfl) ?_
  refine lv_aload_n hx hb dL_law_796 rfl (lv_at hl 1 rfl) ?_
  refine lv_iload hx hb dL_law_797 (lv_at hl 0 rfl) ?_
  refine lv_iconst (v := 1) hx hb dL_law_799 (by decide) ?_
  refine lv_iadd hx hb dL_law_800 ?_
  refine va_sld hx hb hX hbl hbA hS hv1 dL_law_801 ?_
  refine lv_aload_n hx hb dL_law_802 rfl (lv_at hl 1 rfl) ?_
  refine lv_iload hx hb dL_law_803 (lv_at hl 0 rfl) ?_
  refine lv_iconst (v := 2) hx hb dL_law_805 (by decide) ?_
  refine lv_iadd hx hb dL_law_806 ?_
  refine va_sld hx hb hX hbl hbA hS hv2 dL_law_807 ?_
  refine lv_aload_n hx hb dL_law_808 rfl (lv_at hl 1 rfl) ?_
  refine lv_iload hx hb dL_law_809 (lv_at hl 0 rfl) ?_
  refine lv_iconst (v := 3) hx hb dL_law_811 (by decide) ?_
  refine lv_iadd hx hb dL_law_812 ?_
  refine va_sld hx hb hX hbl hbA hS hv3 dL_law_813 ?_
  refine lv_aload_n hx hb dL_law_814 rfl (lv_at hl 1 rfl) ?_
  refine lv_iload hx hb dL_law_815 (lv_at hl 0 rfl) ?_
  refine lv_iconst (v := 4) hx hb dL_law_817 (by decide) ?_
  refine lv_iadd hx hb dL_law_818 ?_
  refine va_sld hx hb hX hbl hbA hS hv4 dL_law_819 ?_
  refine lv_aload_n hx hb dL_law_820 rfl (lv_at hl 4 rfl) ?_
  refine bv_ci (vx_runSW (As := [.ref (bv_a G 0), .int (xs (nI (5 * t) + 1).toNatClampNeg), .int (xs (nI (5 * t) + 2).toNatClampNeg), .int (xs (nI (5 * t) + 3).toNatClampNeg), .int (xs (nI (5 * t) + 4).toNatClampNeg), .ref (bv_a G 62)]) (rest := []) ⟨hx, hb, hml, hown, hts⟩ (c_L_order l hlt G X X z t (xs (nI (5 * t) + 1).toNatClampNeg) (xs (nI (5 * t) + 2).toNatClampNeg) (xs (nI (5 * t) + 3).toNatClampNeg) (xs (nI (5 * t) + 4).toNatClampNeg) ht hI) (vx_cwSW 6 hts gL_law_L_order rfl rfl rfl (by decide +kernel) ⟨Nat.le_of_ble_eq_true rfl, Nat.le_of_ble_eq_true rfl⟩) (bv_preS hz9 hP hK hE hS) rfl rfl hl.1 rfl (lv_room (Nat.le_of_ble_eq_true rfl)) dL_law_821 ⟨show cells + 5 ≤ 640723 by omega, show slots + 30 ≤ 7173936 by omega⟩) hS (fun H locs hP hS => ?_)
  refine lv_istore (lv' := [(5, .int (sp_order X (xs (nI (5 * t) + 1).toNatClampNeg) (xs (nI (5 * t) + 2).toNatClampNeg) (xs (nI (5 * t) + 3).toNatClampNeg) (xs (nI (5 * t) + 4).toNatClampNeg)).1), (4, .int (nI (5 * t))), (0, .ref b), (1, .ref (bv_a G 0)), (2, .ref (bv_a G 43)), (3, .ref (bv_a G 62))]) hx hb dL_law_824 hl (by decide) rfl (fun ls hl => ?_)
  refine lv_aload_n hx hb dL_law_826 rfl (lv_at hl 4 rfl) ?_
  refine lv_aload_n hx hb dL_law_827 rfl (lv_at hl 2 rfl) ?_
  refine lv_iload hx hb dL_law_828 (lv_at hl 1 rfl) ?_
  refine lv_iconst (v := 1) hx hb dL_law_830 (by decide) ?_
  refine lv_iadd hx hb dL_law_831 ?_
  refine va_sld hx hb hX hbl hbA hS hv1 dL_law_832 ?_
  refine lv_aload_n hx hb dL_law_833 rfl (lv_at hl 2 rfl) ?_
  refine lv_iload hx hb dL_law_834 (lv_at hl 1 rfl) ?_
  refine lv_iconst (v := 2) hx hb dL_law_836 (by decide) ?_
  refine lv_iadd hx hb dL_law_837 ?_
  refine va_sld hx hb hX hbl hbA hS hv2 dL_law_838 ?_
  refine lv_aload_n hx hb dL_law_839 rfl (lv_at hl 2 rfl) ?_
  refine lv_iload hx hb dL_law_840 (lv_at hl 1 rfl) ?_
  refine lv_iconst (v := 3) hx hb dL_law_842 (by decide) ?_
  refine lv_iadd hx hb dL_law_843 ?_
  refine va_sld hx hb hX hbl hbA hS hv3 dL_law_844 ?_
  refine lv_aload_n hx hb dL_law_845 rfl (lv_at hl 2 rfl) ?_
  refine lv_iload hx hb dL_law_846 (lv_at hl 1 rfl) ?_
  refine lv_iconst (v := 4) hx hb dL_law_848 (by decide) ?_
  refine lv_iadd hx hb dL_law_849 ?_
  refine va_sld hx hb hX hbl hbA hS hv4 dL_law_850 ?_
  refine bv_ci (va_runV (As := [.int (xs (nI (5 * t) + 1).toNatClampNeg), .int (xs (nI (5 * t) + 2).toNatClampNeg), .int (xs (nI (5 * t) + 3).toNatClampNeg), .int (xs (nI (5 * t) + 4).toNatClampNeg)]) (rest := []) ⟨hx, hb, hml, hown, hts⟩ (c_X3_order l G (bv_vw (sp_order X (xs (nI (5 * t) + 1).toNatClampNeg) (xs (nI (5 * t) + 2).toNatClampNeg) (xs (nI (5 * t) + 3).toNatClampNeg) (xs (nI (5 * t) + 4).toNatClampNeg)).2.2) X (z.1, if (sp_order X (xs (nI (5 * t) + 1).toNatClampNeg) (xs (nI (5 * t) + 2).toNatClampNeg) (xs (nI (5 * t) + 3).toNatClampNeg) (xs (nI (5 * t) + 4).toNatClampNeg)).1 = 0 then (sp_order X (xs (nI (5 * t) + 1).toNatClampNeg) (xs (nI (5 * t) + 2).toNatClampNeg) (xs (nI (5 * t) + 3).toNatClampNeg) (xs (nI (5 * t) + 4).toNatClampNeg)).2.1.toInt64 else z.2) t (xs (nI (5 * t) + 1).toNatClampNeg) (xs (nI (5 * t) + 2).toNatClampNeg) (xs (nI (5 * t) + 3).toNatClampNeg) (xs (nI (5 * t) + 4).toNatClampNeg) ht hI) (cwV 4 hts gL_law_X3_order rfl rfl rfl (by decide +kernel) ⟨Nat.le_of_ble_eq_true rfl, Nat.le_of_ble_eq_true rfl⟩) (bv_preV hz9 hP hK hE hS (ci := 3) (bv_c43 G _ _ _) rfl rfl) rfl rfl hl.1 rfl (lv_room (Nat.le_of_ble_eq_true rfl)) dL_law_851 ⟨show cells + 5 + 0 ≤ 640723 by omega, show slots + 30 + 0 ≤ 7173936 by omega⟩) hS (fun H locs hP hS => ?_)
  refine lv_istore (lv' := [(6, .int (sp_order X (xs (nI (5 * t) + 1).toNatClampNeg) (xs (nI (5 * t) + 2).toNatClampNeg) (xs (nI (5 * t) + 3).toNatClampNeg) (xs (nI (5 * t) + 4).toNatClampNeg)).2.1), (5, .int (sp_order X (xs (nI (5 * t) + 1).toNatClampNeg) (xs (nI (5 * t) + 2).toNatClampNeg) (xs (nI (5 * t) + 3).toNatClampNeg) (xs (nI (5 * t) + 4).toNatClampNeg)).1), (4, .int (nI (5 * t))), (0, .ref b), (1, .ref (bv_a G 0)), (2, .ref (bv_a G 43)), (3, .ref (bv_a G 62))]) hx hb dL_law_854 hl (by decide) rfl (fun ls hl => ?_)
  refine lv_aload_n hx hb dL_law_856 rfl (lv_at hl 5 rfl) ?_
  refine bv_ci (va_runV (As := []) (rest := []) ⟨hx, hb, hml, hown, hts⟩ (c_X3_thrown l G (bv_vw (sp_order X (xs (nI (5 * t) + 1).toNatClampNeg) (xs (nI (5 * t) + 2).toNatClampNeg) (xs (nI (5 * t) + 3).toNatClampNeg) (xs (nI (5 * t) + 4).toNatClampNeg)).2.2) (sp_order X (xs (nI (5 * t) + 1).toNatClampNeg) (xs (nI (5 * t) + 2).toNatClampNeg) (xs (nI (5 * t) + 3).toNatClampNeg) (xs (nI (5 * t) + 4).toNatClampNeg)).2.2 ((sp_order X (xs (nI (5 * t) + 1).toNatClampNeg) (xs (nI (5 * t) + 2).toNatClampNeg) (xs (nI (5 * t) + 3).toNatClampNeg) (xs (nI (5 * t) + 4).toNatClampNeg)).1, ((z.1, if (sp_order X (xs (nI (5 * t) + 1).toNatClampNeg) (xs (nI (5 * t) + 2).toNatClampNeg) (xs (nI (5 * t) + 3).toNatClampNeg) (xs (nI (5 * t) + 4).toNatClampNeg)).1 = 0 then (sp_order X (xs (nI (5 * t) + 1).toNatClampNeg) (xs (nI (5 * t) + 2).toNatClampNeg) (xs (nI (5 * t) + 3).toNatClampNeg) (xs (nI (5 * t) + 4).toNatClampNeg)).2.1.toInt64 else z.2)).2)) (cwV 0 hts gL_law_X3_thrown rfl rfl rfl (by decide +kernel) ⟨Nat.le_of_ble_eq_true rfl, Nat.le_of_ble_eq_true rfl⟩) (bv_preV hz9 hP hK hE hS (ci := 3) (bv_c43 G _ _ _) rfl rfl) rfl rfl hl.1 rfl (lv_room (Nat.le_of_ble_eq_true rfl)) dL_law_857 ⟨show cells + 5 + 0 + 0 ≤ 640723 by omega, show slots + 30 + 0 + 0 ≤ 7173936 by omega⟩) hS (fun H locs hP hS => ?_)
  refine lv_iload hx hb dL_law_860 (lv_at hl 1 rfl) ?_
  refine lv_icmp_eq (tgt := 867) hx hb dL_law_862 (by decide) (fun c_1 => ?_) (fun c_1 => absurd rfl c_1)
  refine lv_iload hx hb dL_law_867 (lv_at hl 1 rfl) ?_
  refine lv_if_ne (tgt := 884) hx hb dL_law_869 (by decide) (fun c_2 => ?_) (fun c_2 => ?_)
  · refine lv_goto (tgt := 1378) hx hb dL_law_884 (by decide) ?_
    exact fin  H locs ls _ hI9 hP hS (lv_sub hl [2, 3, 4, 5, 6] rfl)
  · skip
    refine lv_aload_n hx hb dL_law_872 rfl (lv_at hl 6 rfl) ?_
    refine lv_iconst (v := 0) hx hb dL_law_873 (by decide) ?_
    refine va_lald hx hb hK.2 hP 62 3 (bv_c62 G _ _ _) rfl (show vp_in (0 : Int32) 1 by unfold vp_in; decide) dL_law_874 ?_
    refine lv_iload hx hb dL_law_875 (lv_at hl 0 rfl) ?_
    refine lv_i2l hx hb dL_law_877 rfl ?_
    refine bv_lcmp hx hb (show (if (sp_order X (xs (nI (5 * t) + 1).toNatClampNeg) (xs (nI (5 * t) + 2).toNatClampNeg) (xs (nI (5 * t) + 3).toNatClampNeg) (xs (nI (5 * t) + 4).toNatClampNeg)).1 = 0 then (sp_order X (xs (nI (5 * t) + 1).toNatClampNeg) (xs (nI (5 * t) + 2).toNatClampNeg) (xs (nI (5 * t) + 3).toNatClampNeg) (xs (nI (5 * t) + 4).toNatClampNeg)).2.1.toInt64 else z.2) = _ by rw [if_pos c_2]) dL_law_878 ?_
    refine lv_if_eq (tgt := 884) hx hb dL_law_879 (by decide) (fun c_9 => ?_) (fun c_9 => absurd rfl c_9)
    refine lv_goto (tgt := 1378) hx hb dL_law_884 (by decide) ?_
    exact fin H locs ls _ hI9 hP hS (lv_sub hl [2, 3, 4, 5, 6] rfl)
set_option maxHeartbeats 1000000 in
set_option maxRecDepth 100000 in
theorem bv_case_lift {p : Program} {e : Env} {s : State} {m : MethodId} {below : List Frame} {meth : Method} {c : Code} {Q : State → Prop} (l : Launch) (hlt : l.stackTraces = false) {b L t : Nat} {xs : Nat → Int32} {H : Heap} {locs : List Loc} {ls : Array Slot} {cells slots : Nat} (C0 : lw_At p s m meth c b L xs) (G : bv_G) (hz : bv_n G = s.heap.size) (hK : bv_K G s) (hE : bv_En G s s.heap) (X : bv_X) (z : bv_Z) (hI : bv_I t X) (ht : t ≤ 1000) (h5 : 5 * t + 5 ≤ L) (hL : L ≤ 2560) (hc : cells + 6 ≤ 640723) (hs : slots + 36 ≤ 7173936) (hP : bv_H G (bv_vw X) X z H) (hS : va_S (bv_A G) s.heap H locs) (hl : lv_has ls 7 [(4, .int (nI (5 * t))), (0, .ref b), (1, .ref (bv_a G 0)), (2, .ref (bv_a G 43)), (3, .ref (bv_a G 62))])
    (kk : ∀ (X' : bv_X) (z' : bv_Z) (H : Heap) (locs : List Loc) (ls : Array Slot), bv_I (t + 1) X' → bv_H G (bv_vw X') X' z' H → va_S (bv_A G) s.heap H locs → lv_has ls 7 [(4, .int (nI (5 * t))), (0, .ref b), (1, .ref (bv_a G 0)), (2, .ref (bv_a G 43)), (3, .ref (bv_a G 62))] → W p l e room_1 s m #[Value.ref b] below meth c H locs (cells + 6) (slots + 36) Q (F0 m 1378 ls [])) : W p l e room_1 s m #[Value.ref b] below meth c H locs cells slots Q (F0 m 887 ls []) := by
  obtain ⟨hx, hb, hr, hml, hown, hts, hX, hbl, hlocks, hgv⟩ := C0
  have hts : ∀ w ∈ wsL_law, w.before #[Value.ref b] s = true := fun w h => hts w (wsL_law_in w h)
  have hown : s.vm.findClass RL = some m.cls := hown
  have hbA : ¬ bv_A G b := by unfold bv_A; rw [hz]; exact Nat.not_le.mpr hbl
  have hz9 : bv_n G ≤ s.heap.size := Nat.le_of_eq hz
  have hv1 : vp_in (nI (5 * t) + 1) L := by rw [show (1 : Int32) = nI 1 from rfl, nI_add]; exact vp_in_nI (by omega) (by omega)
  have hI9 : bv_I (t + 1) (sp_lift X (xs (nI (5 * t) + 1).toNatClampNeg)).2.2 := bv_I_lift hI _
  have fin : ∀ (H : Heap) (locs : List Loc) (ls : Array Slot) (z9 : bv_Z), bv_I (t + 1) (sp_lift X (xs (nI (5 * t) + 1).toNatClampNeg)).2.2 → bv_H G (bv_vw (sp_lift X (xs (nI (5 * t) + 1).toNatClampNeg)).2.2) (sp_lift X (xs (nI (5 * t) + 1).toNatClampNeg)).2.2 z9 H → va_S (bv_A G) s.heap H locs → lv_has ls 7 [(4, .int (nI (5 * t))), (0, .ref b), (1, .ref (bv_a G 0)), (2, .ref (bv_a G 43)), (3, .ref (bv_a G 62))] → W p l e room_1 s m #[Value.ref b] below meth c H locs (cells + 1 + 0 + 0) (slots + 6 + 0 + 0) Q (F0 m 1378 ls []) := fun H locs ls z9 h1 h2 h3 h4 => W.widen (k := cells + 6) (n := slots + 36) (by omega) (by omega) (kk _ z9 H locs ls h1 h2 h3 h4)
  refine lv_aload_n hx hb dL_law_887 rfl (lv_at hl 2 rfl) ?_
  refine lv_aload_n hx hb dL_law_888 rfl (lv_at hl 1 rfl) ?_
  refine lv_iload hx hb dL_law_889 (lv_at hl 0 rfl) ?_
  refine lv_iconst (v := 1) hx hb dL_law_891 (by decide) ?_
  refine lv_iadd hx hb dL_law_892 ?_
  refine va_sld hx hb hX hbl hbA hS hv1 dL_law_893 ?_
  refine lv_aload_n hx hb dL_law_894 rfl (lv_at hl 4 rfl) ?_
  refine bv_ci (vx_runSW (As := [.ref (bv_a G 0), .int (xs (nI (5 * t) + 1).toNatClampNeg), .ref (bv_a G 62)]) (rest := []) ⟨hx, hb, hml, hown, hts⟩ (c_L_lift l hlt G X X z t (xs (nI (5 * t) + 1).toNatClampNeg) ht hI) (vx_cwSW 3 hts gL_law_L_lift rfl rfl rfl (by decide +kernel) ⟨Nat.le_of_ble_eq_true rfl, Nat.le_of_ble_eq_true rfl⟩) (bv_preS hz9 hP hK hE hS) rfl rfl hl.1 rfl (lv_room (Nat.le_of_ble_eq_true rfl)) dL_law_895 ⟨show cells + 1 ≤ 640723 by omega, show slots + 6 ≤ 7173936 by omega⟩) hS (fun H locs hP hS => ?_)
  refine lv_istore (lv' := [(5, .int (sp_lift X (xs (nI (5 * t) + 1).toNatClampNeg)).1), (4, .int (nI (5 * t))), (0, .ref b), (1, .ref (bv_a G 0)), (2, .ref (bv_a G 43)), (3, .ref (bv_a G 62))]) hx hb dL_law_898 hl (by decide) rfl (fun ls hl => ?_)
  refine lv_aload_n hx hb dL_law_900 rfl (lv_at hl 4 rfl) ?_
  refine lv_aload_n hx hb dL_law_901 rfl (lv_at hl 2 rfl) ?_
  refine lv_iload hx hb dL_law_902 (lv_at hl 1 rfl) ?_
  refine lv_iconst (v := 1) hx hb dL_law_904 (by decide) ?_
  refine lv_iadd hx hb dL_law_905 ?_
  refine va_sld hx hb hX hbl hbA hS hv1 dL_law_906 ?_
  refine bv_ci (va_runV (As := [.int (xs (nI (5 * t) + 1).toNatClampNeg)]) (rest := []) ⟨hx, hb, hml, hown, hts⟩ (c_X3_lift l G (bv_vw (sp_lift X (xs (nI (5 * t) + 1).toNatClampNeg)).2.2) X (z.1, if (sp_lift X (xs (nI (5 * t) + 1).toNatClampNeg)).1 = 0 then (sp_lift X (xs (nI (5 * t) + 1).toNatClampNeg)).2.1.toInt64 else z.2) t (xs (nI (5 * t) + 1).toNatClampNeg) ht hI) (cwV 1 hts gL_law_X3_lift rfl rfl rfl (by decide +kernel) ⟨Nat.le_of_ble_eq_true rfl, Nat.le_of_ble_eq_true rfl⟩) (bv_preV hz9 hP hK hE hS (ci := 3) (bv_c43 G _ _ _) rfl rfl) rfl rfl hl.1 rfl (lv_room (Nat.le_of_ble_eq_true rfl)) dL_law_907 ⟨show cells + 1 + 0 ≤ 640723 by omega, show slots + 6 + 0 ≤ 7173936 by omega⟩) hS (fun H locs hP hS => ?_)
  refine lv_istore (lv' := [(6, .int (sp_lift X (xs (nI (5 * t) + 1).toNatClampNeg)).2.1), (5, .int (sp_lift X (xs (nI (5 * t) + 1).toNatClampNeg)).1), (4, .int (nI (5 * t))), (0, .ref b), (1, .ref (bv_a G 0)), (2, .ref (bv_a G 43)), (3, .ref (bv_a G 62))]) hx hb dL_law_910 hl (by decide) rfl (fun ls hl => ?_)
  refine lv_aload_n hx hb dL_law_912 rfl (lv_at hl 5 rfl) ?_
  refine bv_ci (va_runV (As := []) (rest := []) ⟨hx, hb, hml, hown, hts⟩ (c_X3_thrown l G (bv_vw (sp_lift X (xs (nI (5 * t) + 1).toNatClampNeg)).2.2) (sp_lift X (xs (nI (5 * t) + 1).toNatClampNeg)).2.2 ((sp_lift X (xs (nI (5 * t) + 1).toNatClampNeg)).1, ((z.1, if (sp_lift X (xs (nI (5 * t) + 1).toNatClampNeg)).1 = 0 then (sp_lift X (xs (nI (5 * t) + 1).toNatClampNeg)).2.1.toInt64 else z.2)).2)) (cwV 0 hts gL_law_X3_thrown rfl rfl rfl (by decide +kernel) ⟨Nat.le_of_ble_eq_true rfl, Nat.le_of_ble_eq_true rfl⟩) (bv_preV hz9 hP hK hE hS (ci := 3) (bv_c43 G _ _ _) rfl rfl) rfl rfl hl.1 rfl (lv_room (Nat.le_of_ble_eq_true rfl)) dL_law_913 ⟨show cells + 1 + 0 + 0 ≤ 640723 by omega, show slots + 6 + 0 + 0 ≤ 7173936 by omega⟩) hS (fun H locs hP hS => ?_)
  refine lv_iload hx hb dL_law_916 (lv_at hl 1 rfl) ?_
  refine lv_icmp_eq (tgt := 923) hx hb dL_law_918 (by decide) (fun c_1 => ?_) (fun c_1 => absurd rfl c_1)
  refine lv_iload hx hb dL_law_923 (lv_at hl 1 rfl) ?_
  refine lv_if_ne (tgt := 947) hx hb dL_law_925 (by decide) (fun c_2 => ?_) (fun c_2 => ?_)
  · refine lv_goto (tgt := 1378) hx hb dL_law_947 (by decide) ?_
    exact fin  H locs ls _ hI9 hP hS (lv_sub hl [2, 3, 4, 5, 6] rfl)
  · skip
    refine lv_aload_n hx hb dL_law_928 rfl (lv_at hl 6 rfl) ?_
    refine lv_iconst (v := 0) hx hb dL_law_929 (by decide) ?_
    refine va_lald hx hb hK.2 hP 62 3 (bv_c62 G _ _ _) rfl (show vp_in (0 : Int32) 1 by unfold vp_in; decide) dL_law_930 ?_
    refine lv_iload hx hb dL_law_931 (lv_at hl 0 rfl) ?_
    refine bv_bool (w := (sp_lift X (xs (nI (5 * t) + 1).toNatClampNeg)).2.1.toInt64) s01_lift (tgt1 := 940) (tgt2 := 941) rfl hx hb dL_law_933 dL_law_936 dL_law_937 dL_law_940 (by decide) (by decide) rfl ?_
    refine bv_lcmp hx hb (show (if (sp_lift X (xs (nI (5 * t) + 1).toNatClampNeg)).1 = 0 then (sp_lift X (xs (nI (5 * t) + 1).toNatClampNeg)).2.1.toInt64 else z.2) = _ by rw [if_pos c_2]) dL_law_941 ?_
    refine lv_if_eq (tgt := 947) hx hb dL_law_942 (by decide) (fun c_9 => ?_) (fun c_9 => absurd rfl c_9)
    refine lv_goto (tgt := 1378) hx hb dL_law_947 (by decide) ?_
    exact fin H locs ls _ hI9 hP hS (lv_sub hl [2, 3, 4, 5, 6] rfl)
set_option maxHeartbeats 1000000 in
set_option maxRecDepth 100000 in
theorem bv_case_enter {p : Program} {e : Env} {s : State} {m : MethodId} {below : List Frame} {meth : Method} {c : Code} {Q : State → Prop} (l : Launch) (hlt : l.stackTraces = false) {b L t : Nat} {xs : Nat → Int32} {H : Heap} {locs : List Loc} {ls : Array Slot} {cells slots : Nat} (C0 : lw_At p s m meth c b L xs) (G : bv_G) (hz : bv_n G = s.heap.size) (hK : bv_K G s) (hE : bv_En G s s.heap) (X : bv_X) (z : bv_Z) (hI : bv_I t X) (ht : t ≤ 1000) (h5 : 5 * t + 5 ≤ L) (hL : L ≤ 2560) (hc : cells + 6 ≤ 640723) (hs : slots + 36 ≤ 7173936) (hP : bv_H G (bv_vw X) X z H) (hS : va_S (bv_A G) s.heap H locs) (hl : lv_has ls 7 [(4, .int (nI (5 * t))), (0, .ref b), (1, .ref (bv_a G 0)), (2, .ref (bv_a G 43)), (3, .ref (bv_a G 62))])
    (kk : ∀ (X' : bv_X) (z' : bv_Z) (H : Heap) (locs : List Loc) (ls : Array Slot), bv_I (t + 1) X' → bv_H G (bv_vw X') X' z' H → va_S (bv_A G) s.heap H locs → lv_has ls 7 [(4, .int (nI (5 * t))), (0, .ref b), (1, .ref (bv_a G 0)), (2, .ref (bv_a G 43)), (3, .ref (bv_a G 62))] → W p l e room_1 s m #[Value.ref b] below meth c H locs (cells + 6) (slots + 36) Q (F0 m 1378 ls [])) : W p l e room_1 s m #[Value.ref b] below meth c H locs cells slots Q (F0 m 950 ls []) := by
  obtain ⟨hx, hb, hr, hml, hown, hts, hX, hbl, hlocks, hgv⟩ := C0
  have hts : ∀ w ∈ wsL_law, w.before #[Value.ref b] s = true := fun w h => hts w (wsL_law_in w h)
  have hown : s.vm.findClass RL = some m.cls := hown
  have hbA : ¬ bv_A G b := by unfold bv_A; rw [hz]; exact Nat.not_le.mpr hbl
  have hz9 : bv_n G ≤ s.heap.size := Nat.le_of_eq hz
  have hv1 : vp_in (nI (5 * t) + 1) L := by rw [show (1 : Int32) = nI 1 from rfl, nI_add]; exact vp_in_nI (by omega) (by omega)
  have hv2 : vp_in (nI (5 * t) + 2) L := by rw [show (2 : Int32) = nI 2 from rfl, nI_add]; exact vp_in_nI (by omega) (by omega)
  have hv3 : vp_in (nI (5 * t) + 3) L := by rw [show (3 : Int32) = nI 3 from rfl, nI_add]; exact vp_in_nI (by omega) (by omega)
  have hI9 : bv_I (t + 1) (sp_enter X (xs (nI (5 * t) + 1).toNatClampNeg) (xs (nI (5 * t) + 2).toNatClampNeg) (xs (nI (5 * t) + 3).toNatClampNeg)).2.2 := bv_I_enter hI _ _ _
  have fin : ∀ (H : Heap) (locs : List Loc) (ls : Array Slot) (z9 : bv_Z), bv_I (t + 1) (sp_enter X (xs (nI (5 * t) + 1).toNatClampNeg) (xs (nI (5 * t) + 2).toNatClampNeg) (xs (nI (5 * t) + 3).toNatClampNeg)).2.2 → bv_H G (bv_vw (sp_enter X (xs (nI (5 * t) + 1).toNatClampNeg) (xs (nI (5 * t) + 2).toNatClampNeg) (xs (nI (5 * t) + 3).toNatClampNeg)).2.2) (sp_enter X (xs (nI (5 * t) + 1).toNatClampNeg) (xs (nI (5 * t) + 2).toNatClampNeg) (xs (nI (5 * t) + 3).toNatClampNeg)).2.2 z9 H → va_S (bv_A G) s.heap H locs → lv_has ls 7 [(4, .int (nI (5 * t))), (0, .ref b), (1, .ref (bv_a G 0)), (2, .ref (bv_a G 43)), (3, .ref (bv_a G 62))] → W p l e room_1 s m #[Value.ref b] below meth c H locs (cells + 4 + 0 + 0) (slots + 24 + 0 + 0) Q (F0 m 1378 ls []) := fun H locs ls z9 h1 h2 h3 h4 => W.widen (k := cells + 6) (n := slots + 36) (by omega) (by omega) (kk _ z9 H locs ls h1 h2 h3 h4)
  refine lv_aload_n hx hb dL_law_950 rfl (lv_at hl 2 rfl) ?_
  refine lv_aload_n hx hb dL_law_951 rfl (lv_at hl 1 rfl) ?_
  refine lv_iload hx hb dL_law_952 (lv_at hl 0 rfl) ?_
  refine lv_iconst (v := 1) hx hb dL_law_954 (by decide) ?_
  refine lv_iadd hx hb dL_law_955 ?_
  refine va_sld hx hb hX hbl hbA hS hv1 dL_law_956 ?_
  refine lv_aload_n hx hb dL_law_957 rfl (lv_at hl 1 rfl) ?_
  refine lv_iload hx hb dL_law_958 (lv_at hl 0 rfl) ?_
  refine lv_iconst (v := 2) hx hb dL_law_960 (by decide) ?_
  refine lv_iadd hx hb dL_law_961 ?_
  refine va_sld hx hb hX hbl hbA hS hv2 dL_law_962 ?_
  refine lv_aload_n hx hb dL_law_963 rfl (lv_at hl 1 rfl) ?_
  refine lv_iload hx hb dL_law_964 (lv_at hl 0 rfl) ?_
  refine lv_iconst (v := 3) hx hb dL_law_966 (by decide) ?_
  refine lv_iadd hx hb dL_law_967 ?_
  refine va_sld hx hb hX hbl hbA hS hv3 dL_law_968 ?_
  refine lv_aload_n hx hb dL_law_969 rfl (lv_at hl 4 rfl) ?_
  refine bv_ci (vx_runSW (As := [.ref (bv_a G 0), .int (xs (nI (5 * t) + 1).toNatClampNeg), .int (xs (nI (5 * t) + 2).toNatClampNeg), .int (xs (nI (5 * t) + 3).toNatClampNeg), .ref (bv_a G 62)]) (rest := []) ⟨hx, hb, hml, hown, hts⟩ (c_L_enter l hlt G X X z t (xs (nI (5 * t) + 1).toNatClampNeg) (xs (nI (5 * t) + 2).toNatClampNeg) (xs (nI (5 * t) + 3).toNatClampNeg) ht hI) (vx_cwSW 5 hts gL_law_L_enter rfl rfl rfl (by decide +kernel) ⟨Nat.le_of_ble_eq_true rfl, Nat.le_of_ble_eq_true rfl⟩) (bv_preS hz9 hP hK hE hS) rfl rfl hl.1 rfl (lv_room (Nat.le_of_ble_eq_true rfl)) dL_law_970 ⟨show cells + 4 ≤ 640723 by omega, show slots + 24 ≤ 7173936 by omega⟩) hS (fun H locs hP hS => ?_)
  refine lv_istore (lv' := [(5, .int (sp_enter X (xs (nI (5 * t) + 1).toNatClampNeg) (xs (nI (5 * t) + 2).toNatClampNeg) (xs (nI (5 * t) + 3).toNatClampNeg)).1), (4, .int (nI (5 * t))), (0, .ref b), (1, .ref (bv_a G 0)), (2, .ref (bv_a G 43)), (3, .ref (bv_a G 62))]) hx hb dL_law_973 hl (by decide) rfl (fun ls hl => ?_)
  refine lv_aload_n hx hb dL_law_975 rfl (lv_at hl 4 rfl) ?_
  refine lv_aload_n hx hb dL_law_976 rfl (lv_at hl 2 rfl) ?_
  refine lv_iload hx hb dL_law_977 (lv_at hl 1 rfl) ?_
  refine lv_iconst (v := 1) hx hb dL_law_979 (by decide) ?_
  refine lv_iadd hx hb dL_law_980 ?_
  refine va_sld hx hb hX hbl hbA hS hv1 dL_law_981 ?_
  refine lv_aload_n hx hb dL_law_982 rfl (lv_at hl 2 rfl) ?_
  refine lv_iload hx hb dL_law_983 (lv_at hl 1 rfl) ?_
  refine lv_iconst (v := 2) hx hb dL_law_985 (by decide) ?_
  refine lv_iadd hx hb dL_law_986 ?_
  refine va_sld hx hb hX hbl hbA hS hv2 dL_law_987 ?_
  refine lv_aload_n hx hb dL_law_988 rfl (lv_at hl 2 rfl) ?_
  refine lv_iload hx hb dL_law_989 (lv_at hl 1 rfl) ?_
  refine lv_iconst (v := 3) hx hb dL_law_991 (by decide) ?_
  refine lv_iadd hx hb dL_law_992 ?_
  refine va_sld hx hb hX hbl hbA hS hv3 dL_law_993 ?_
  refine bv_ci (va_runV (As := [.int (xs (nI (5 * t) + 1).toNatClampNeg), .int (xs (nI (5 * t) + 2).toNatClampNeg), .int (xs (nI (5 * t) + 3).toNatClampNeg)]) (rest := []) ⟨hx, hb, hml, hown, hts⟩ (c_X3_enter l G (bv_vw (sp_enter X (xs (nI (5 * t) + 1).toNatClampNeg) (xs (nI (5 * t) + 2).toNatClampNeg) (xs (nI (5 * t) + 3).toNatClampNeg)).2.2) X (z.1, if (sp_enter X (xs (nI (5 * t) + 1).toNatClampNeg) (xs (nI (5 * t) + 2).toNatClampNeg) (xs (nI (5 * t) + 3).toNatClampNeg)).1 = 0 then (sp_enter X (xs (nI (5 * t) + 1).toNatClampNeg) (xs (nI (5 * t) + 2).toNatClampNeg) (xs (nI (5 * t) + 3).toNatClampNeg)).2.1.toInt64 else z.2) t (xs (nI (5 * t) + 1).toNatClampNeg) (xs (nI (5 * t) + 2).toNatClampNeg) (xs (nI (5 * t) + 3).toNatClampNeg) ht hI) (cwV 3 hts gL_law_X3_enter rfl rfl rfl (by decide +kernel) ⟨Nat.le_of_ble_eq_true rfl, Nat.le_of_ble_eq_true rfl⟩) (bv_preV hz9 hP hK hE hS (ci := 3) (bv_c43 G _ _ _) rfl rfl) rfl rfl hl.1 rfl (lv_room (Nat.le_of_ble_eq_true rfl)) dL_law_994 ⟨show cells + 4 + 0 ≤ 640723 by omega, show slots + 24 + 0 ≤ 7173936 by omega⟩) hS (fun H locs hP hS => ?_)
  refine lv_istore (lv' := [(6, .int (sp_enter X (xs (nI (5 * t) + 1).toNatClampNeg) (xs (nI (5 * t) + 2).toNatClampNeg) (xs (nI (5 * t) + 3).toNatClampNeg)).2.1), (5, .int (sp_enter X (xs (nI (5 * t) + 1).toNatClampNeg) (xs (nI (5 * t) + 2).toNatClampNeg) (xs (nI (5 * t) + 3).toNatClampNeg)).1), (4, .int (nI (5 * t))), (0, .ref b), (1, .ref (bv_a G 0)), (2, .ref (bv_a G 43)), (3, .ref (bv_a G 62))]) hx hb dL_law_997 hl (by decide) rfl (fun ls hl => ?_)
  refine lv_aload_n hx hb dL_law_999 rfl (lv_at hl 5 rfl) ?_
  refine bv_ci (va_runV (As := []) (rest := []) ⟨hx, hb, hml, hown, hts⟩ (c_X3_thrown l G (bv_vw (sp_enter X (xs (nI (5 * t) + 1).toNatClampNeg) (xs (nI (5 * t) + 2).toNatClampNeg) (xs (nI (5 * t) + 3).toNatClampNeg)).2.2) (sp_enter X (xs (nI (5 * t) + 1).toNatClampNeg) (xs (nI (5 * t) + 2).toNatClampNeg) (xs (nI (5 * t) + 3).toNatClampNeg)).2.2 ((sp_enter X (xs (nI (5 * t) + 1).toNatClampNeg) (xs (nI (5 * t) + 2).toNatClampNeg) (xs (nI (5 * t) + 3).toNatClampNeg)).1, ((z.1, if (sp_enter X (xs (nI (5 * t) + 1).toNatClampNeg) (xs (nI (5 * t) + 2).toNatClampNeg) (xs (nI (5 * t) + 3).toNatClampNeg)).1 = 0 then (sp_enter X (xs (nI (5 * t) + 1).toNatClampNeg) (xs (nI (5 * t) + 2).toNatClampNeg) (xs (nI (5 * t) + 3).toNatClampNeg)).2.1.toInt64 else z.2)).2)) (cwV 0 hts gL_law_X3_thrown rfl rfl rfl (by decide +kernel) ⟨Nat.le_of_ble_eq_true rfl, Nat.le_of_ble_eq_true rfl⟩) (bv_preV hz9 hP hK hE hS (ci := 3) (bv_c43 G _ _ _) rfl rfl) rfl rfl hl.1 rfl (lv_room (Nat.le_of_ble_eq_true rfl)) dL_law_1000 ⟨show cells + 4 + 0 + 0 ≤ 640723 by omega, show slots + 24 + 0 + 0 ≤ 7173936 by omega⟩) hS (fun H locs hP hS => ?_)
  refine lv_iload hx hb dL_law_1003 (lv_at hl 1 rfl) ?_
  refine lv_icmp_eq (tgt := 1010) hx hb dL_law_1005 (by decide) (fun c_1 => ?_) (fun c_1 => absurd rfl c_1)
  refine lv_iload hx hb dL_law_1010 (lv_at hl 1 rfl) ?_
  refine lv_if_ne (tgt := 1027) hx hb dL_law_1012 (by decide) (fun c_2 => ?_) (fun c_2 => ?_)
  · refine lv_goto (tgt := 1378) hx hb dL_law_1027 (by decide) ?_
    exact fin  H locs ls _ hI9 hP hS (lv_sub hl [2, 3, 4, 5, 6] rfl)
  · skip
    refine lv_aload_n hx hb dL_law_1015 rfl (lv_at hl 6 rfl) ?_
    refine lv_iconst (v := 0) hx hb dL_law_1016 (by decide) ?_
    refine va_lald hx hb hK.2 hP 62 3 (bv_c62 G _ _ _) rfl (show vp_in (0 : Int32) 1 by unfold vp_in; decide) dL_law_1017 ?_
    refine lv_iload hx hb dL_law_1018 (lv_at hl 0 rfl) ?_
    refine lv_i2l hx hb dL_law_1020 rfl ?_
    refine bv_lcmp hx hb (show (if (sp_enter X (xs (nI (5 * t) + 1).toNatClampNeg) (xs (nI (5 * t) + 2).toNatClampNeg) (xs (nI (5 * t) + 3).toNatClampNeg)).1 = 0 then (sp_enter X (xs (nI (5 * t) + 1).toNatClampNeg) (xs (nI (5 * t) + 2).toNatClampNeg) (xs (nI (5 * t) + 3).toNatClampNeg)).2.1.toInt64 else z.2) = _ by rw [if_pos c_2]) dL_law_1021 ?_
    refine lv_if_eq (tgt := 1027) hx hb dL_law_1022 (by decide) (fun c_9 => ?_) (fun c_9 => absurd rfl c_9)
    refine lv_goto (tgt := 1378) hx hb dL_law_1027 (by decide) ?_
    exact fin H locs ls _ hI9 hP hS (lv_sub hl [2, 3, 4, 5, 6] rfl)
set_option maxHeartbeats 1000000 in
set_option maxRecDepth 100000 in
theorem bv_case_may {p : Program} {e : Env} {s : State} {m : MethodId} {below : List Frame} {meth : Method} {c : Code} {Q : State → Prop} (l : Launch) (hlt : l.stackTraces = false) {b L t : Nat} {xs : Nat → Int32} {H : Heap} {locs : List Loc} {ls : Array Slot} {cells slots : Nat} (C0 : lw_At p s m meth c b L xs) (G : bv_G) (hz : bv_n G = s.heap.size) (hK : bv_K G s) (hE : bv_En G s s.heap) (X : bv_X) (z : bv_Z) (hI : bv_I t X) (ht : t ≤ 1000) (h5 : 5 * t + 5 ≤ L) (hL : L ≤ 2560) (hc : cells + 6 ≤ 640723) (hs : slots + 36 ≤ 7173936) (hP : bv_H G (bv_vw X) X z H) (hS : va_S (bv_A G) s.heap H locs) (hl : lv_has ls 7 [(4, .int (nI (5 * t))), (0, .ref b), (1, .ref (bv_a G 0)), (2, .ref (bv_a G 43)), (3, .ref (bv_a G 62))])
    (kk : ∀ (X' : bv_X) (z' : bv_Z) (H : Heap) (locs : List Loc) (ls : Array Slot), bv_I (t + 1) X' → bv_H G (bv_vw X') X' z' H → va_S (bv_A G) s.heap H locs → lv_has ls 7 [(4, .int (nI (5 * t))), (0, .ref b), (1, .ref (bv_a G 0)), (2, .ref (bv_a G 43)), (3, .ref (bv_a G 62))] → W p l e room_1 s m #[Value.ref b] below meth c H locs (cells + 6) (slots + 36) Q (F0 m 1378 ls [])) : W p l e room_1 s m #[Value.ref b] below meth c H locs cells slots Q (F0 m 1030 ls []) := by
  obtain ⟨hx, hb, hr, hml, hown, hts, hX, hbl, hlocks, hgv⟩ := C0
  have hts : ∀ w ∈ wsL_law, w.before #[Value.ref b] s = true := fun w h => hts w (wsL_law_in w h)
  have hown : s.vm.findClass RL = some m.cls := hown
  have hbA : ¬ bv_A G b := by unfold bv_A; rw [hz]; exact Nat.not_le.mpr hbl
  have hz9 : bv_n G ≤ s.heap.size := Nat.le_of_eq hz
  have hv1 : vp_in (nI (5 * t) + 1) L := by rw [show (1 : Int32) = nI 1 from rfl, nI_add]; exact vp_in_nI (by omega) (by omega)
  have hv2 : vp_in (nI (5 * t) + 2) L := by rw [show (2 : Int32) = nI 2 from rfl, nI_add]; exact vp_in_nI (by omega) (by omega)
  have hI9 : bv_I (t + 1) (sp_may X (xs (nI (5 * t) + 1).toNatClampNeg) (xs (nI (5 * t) + 2).toNatClampNeg)).2.2 := bv_I_may hI _ _
  have fin : ∀ (H : Heap) (locs : List Loc) (ls : Array Slot) (z9 : bv_Z), bv_I (t + 1) (sp_may X (xs (nI (5 * t) + 1).toNatClampNeg) (xs (nI (5 * t) + 2).toNatClampNeg)).2.2 → bv_H G (bv_vw (sp_may X (xs (nI (5 * t) + 1).toNatClampNeg) (xs (nI (5 * t) + 2).toNatClampNeg)).2.2) (sp_may X (xs (nI (5 * t) + 1).toNatClampNeg) (xs (nI (5 * t) + 2).toNatClampNeg)).2.2 z9 H → va_S (bv_A G) s.heap H locs → lv_has ls 7 [(4, .int (nI (5 * t))), (0, .ref b), (1, .ref (bv_a G 0)), (2, .ref (bv_a G 43)), (3, .ref (bv_a G 62))] → W p l e room_1 s m #[Value.ref b] below meth c H locs (cells + 2 + 0 + 0) (slots + 12 + 0 + 0) Q (F0 m 1378 ls []) := fun H locs ls z9 h1 h2 h3 h4 => W.widen (k := cells + 6) (n := slots + 36) (by omega) (by omega) (kk _ z9 H locs ls h1 h2 h3 h4)
  refine lv_aload_n hx hb dL_law_1030 rfl (lv_at hl 2 rfl) ?_
  refine lv_aload_n hx hb dL_law_1031 rfl (lv_at hl 1 rfl) ?_
  refine lv_iload hx hb dL_law_1032 (lv_at hl 0 rfl) ?_
  refine lv_iconst (v := 1) hx hb dL_law_1034 (by decide) ?_
  refine lv_iadd hx hb dL_law_1035 ?_
  refine va_sld hx hb hX hbl hbA hS hv1 dL_law_1036 ?_
  refine lv_aload_n hx hb dL_law_1037 rfl (lv_at hl 1 rfl) ?_
  refine lv_iload hx hb dL_law_1038 (lv_at hl 0 rfl) ?_
  refine lv_iconst (v := 2) hx hb dL_law_1040 (by decide) ?_
  refine lv_iadd hx hb dL_law_1041 ?_
  refine va_sld hx hb hX hbl hbA hS hv2 dL_law_1042 ?_
  refine lv_aload_n hx hb dL_law_1043 rfl (lv_at hl 4 rfl) ?_
  refine bv_ci (vx_runSW (As := [.ref (bv_a G 0), .int (xs (nI (5 * t) + 1).toNatClampNeg), .int (xs (nI (5 * t) + 2).toNatClampNeg), .ref (bv_a G 62)]) (rest := []) ⟨hx, hb, hml, hown, hts⟩ (c_L_may l hlt G X X z t (xs (nI (5 * t) + 1).toNatClampNeg) (xs (nI (5 * t) + 2).toNatClampNeg) ht hI) (vx_cwSW 4 hts gL_law_L_may rfl rfl rfl (by decide +kernel) ⟨Nat.le_of_ble_eq_true rfl, Nat.le_of_ble_eq_true rfl⟩) (bv_preS hz9 hP hK hE hS) rfl rfl hl.1 rfl (lv_room (Nat.le_of_ble_eq_true rfl)) dL_law_1044 ⟨show cells + 2 ≤ 640723 by omega, show slots + 12 ≤ 7173936 by omega⟩) hS (fun H locs hP hS => ?_)
  refine lv_istore (lv' := [(5, .int (sp_may X (xs (nI (5 * t) + 1).toNatClampNeg) (xs (nI (5 * t) + 2).toNatClampNeg)).1), (4, .int (nI (5 * t))), (0, .ref b), (1, .ref (bv_a G 0)), (2, .ref (bv_a G 43)), (3, .ref (bv_a G 62))]) hx hb dL_law_1047 hl (by decide) rfl (fun ls hl => ?_)
  refine lv_aload_n hx hb dL_law_1049 rfl (lv_at hl 4 rfl) ?_
  refine lv_aload_n hx hb dL_law_1050 rfl (lv_at hl 2 rfl) ?_
  refine lv_iload hx hb dL_law_1051 (lv_at hl 1 rfl) ?_
  refine lv_iconst (v := 1) hx hb dL_law_1053 (by decide) ?_
  refine lv_iadd hx hb dL_law_1054 ?_
  refine va_sld hx hb hX hbl hbA hS hv1 dL_law_1055 ?_
  refine lv_aload_n hx hb dL_law_1056 rfl (lv_at hl 2 rfl) ?_
  refine lv_iload hx hb dL_law_1057 (lv_at hl 1 rfl) ?_
  refine lv_iconst (v := 2) hx hb dL_law_1059 (by decide) ?_
  refine lv_iadd hx hb dL_law_1060 ?_
  refine va_sld hx hb hX hbl hbA hS hv2 dL_law_1061 ?_
  refine bv_ci (va_runV (As := [.int (xs (nI (5 * t) + 1).toNatClampNeg), .int (xs (nI (5 * t) + 2).toNatClampNeg)]) (rest := []) ⟨hx, hb, hml, hown, hts⟩ (c_X3_may l G (bv_vw (sp_may X (xs (nI (5 * t) + 1).toNatClampNeg) (xs (nI (5 * t) + 2).toNatClampNeg)).2.2) X (z.1, if (sp_may X (xs (nI (5 * t) + 1).toNatClampNeg) (xs (nI (5 * t) + 2).toNatClampNeg)).1 = 0 then (sp_may X (xs (nI (5 * t) + 1).toNatClampNeg) (xs (nI (5 * t) + 2).toNatClampNeg)).2.1.toInt64 else z.2) t (xs (nI (5 * t) + 1).toNatClampNeg) (xs (nI (5 * t) + 2).toNatClampNeg) ht hI) (cwV 2 hts gL_law_X3_may rfl rfl rfl (by decide +kernel) ⟨Nat.le_of_ble_eq_true rfl, Nat.le_of_ble_eq_true rfl⟩) (bv_preV hz9 hP hK hE hS (ci := 3) (bv_c43 G _ _ _) rfl rfl) rfl rfl hl.1 rfl (lv_room (Nat.le_of_ble_eq_true rfl)) dL_law_1062 ⟨show cells + 2 + 0 ≤ 640723 by omega, show slots + 12 + 0 ≤ 7173936 by omega⟩) hS (fun H locs hP hS => ?_)
  refine lv_istore (lv' := [(6, .int (sp_may X (xs (nI (5 * t) + 1).toNatClampNeg) (xs (nI (5 * t) + 2).toNatClampNeg)).2.1), (5, .int (sp_may X (xs (nI (5 * t) + 1).toNatClampNeg) (xs (nI (5 * t) + 2).toNatClampNeg)).1), (4, .int (nI (5 * t))), (0, .ref b), (1, .ref (bv_a G 0)), (2, .ref (bv_a G 43)), (3, .ref (bv_a G 62))]) hx hb dL_law_1065 hl (by decide) rfl (fun ls hl => ?_)
  refine lv_aload_n hx hb dL_law_1067 rfl (lv_at hl 5 rfl) ?_
  refine bv_ci (va_runV (As := []) (rest := []) ⟨hx, hb, hml, hown, hts⟩ (c_X3_thrown l G (bv_vw (sp_may X (xs (nI (5 * t) + 1).toNatClampNeg) (xs (nI (5 * t) + 2).toNatClampNeg)).2.2) (sp_may X (xs (nI (5 * t) + 1).toNatClampNeg) (xs (nI (5 * t) + 2).toNatClampNeg)).2.2 ((sp_may X (xs (nI (5 * t) + 1).toNatClampNeg) (xs (nI (5 * t) + 2).toNatClampNeg)).1, ((z.1, if (sp_may X (xs (nI (5 * t) + 1).toNatClampNeg) (xs (nI (5 * t) + 2).toNatClampNeg)).1 = 0 then (sp_may X (xs (nI (5 * t) + 1).toNatClampNeg) (xs (nI (5 * t) + 2).toNatClampNeg)).2.1.toInt64 else z.2)).2)) (cwV 0 hts gL_law_X3_thrown rfl rfl rfl (by decide +kernel) ⟨Nat.le_of_ble_eq_true rfl, Nat.le_of_ble_eq_true rfl⟩) (bv_preV hz9 hP hK hE hS (ci := 3) (bv_c43 G _ _ _) rfl rfl) rfl rfl hl.1 rfl (lv_room (Nat.le_of_ble_eq_true rfl)) dL_law_1068 ⟨show cells + 2 + 0 + 0 ≤ 640723 by omega, show slots + 12 + 0 + 0 ≤ 7173936 by omega⟩) hS (fun H locs hP hS => ?_)
  refine lv_iload hx hb dL_law_1071 (lv_at hl 1 rfl) ?_
  refine lv_icmp_eq (tgt := 1078) hx hb dL_law_1073 (by decide) (fun c_1 => ?_) (fun c_1 => absurd rfl c_1)
  refine lv_iload hx hb dL_law_1078 (lv_at hl 1 rfl) ?_
  refine lv_if_ne (tgt := 1095) hx hb dL_law_1080 (by decide) (fun c_2 => ?_) (fun c_2 => ?_)
  · refine lv_goto (tgt := 1378) hx hb dL_law_1095 (by decide) ?_
    exact fin  H locs ls _ hI9 hP hS (lv_sub hl [2, 3, 4, 5, 6] rfl)
  · skip
    refine lv_aload_n hx hb dL_law_1083 rfl (lv_at hl 6 rfl) ?_
    refine lv_iconst (v := 0) hx hb dL_law_1084 (by decide) ?_
    refine va_lald hx hb hK.2 hP 62 3 (bv_c62 G _ _ _) rfl (show vp_in (0 : Int32) 1 by unfold vp_in; decide) dL_law_1085 ?_
    refine lv_iload hx hb dL_law_1086 (lv_at hl 0 rfl) ?_
    refine lv_i2l hx hb dL_law_1088 rfl ?_
    refine bv_lcmp hx hb (show (if (sp_may X (xs (nI (5 * t) + 1).toNatClampNeg) (xs (nI (5 * t) + 2).toNatClampNeg)).1 = 0 then (sp_may X (xs (nI (5 * t) + 1).toNatClampNeg) (xs (nI (5 * t) + 2).toNatClampNeg)).2.1.toInt64 else z.2) = _ by rw [if_pos c_2]) dL_law_1089 ?_
    refine lv_if_eq (tgt := 1095) hx hb dL_law_1090 (by decide) (fun c_9 => ?_) (fun c_9 => absurd rfl c_9)
    refine lv_goto (tgt := 1378) hx hb dL_law_1095 (by decide) ?_
    exact fin H locs ls _ hI9 hP hS (lv_sub hl [2, 3, 4, 5, 6] rfl)
set_option maxHeartbeats 1000000 in
set_option maxRecDepth 100000 in
theorem bv_case_mayAll {p : Program} {e : Env} {s : State} {m : MethodId} {below : List Frame} {meth : Method} {c : Code} {Q : State → Prop} (l : Launch) (hlt : l.stackTraces = false) {b L t : Nat} {xs : Nat → Int32} {H : Heap} {locs : List Loc} {ls : Array Slot} {cells slots : Nat} (C0 : lw_At p s m meth c b L xs) (G : bv_G) (hz : bv_n G = s.heap.size) (hK : bv_K G s) (hE : bv_En G s s.heap) (X : bv_X) (z : bv_Z) (hI : bv_I t X) (ht : t ≤ 1000) (h5 : 5 * t + 5 ≤ L) (hL : L ≤ 2560) (hc : cells + 6 ≤ 640723) (hs : slots + 36 ≤ 7173936) (hP : bv_H G (bv_vw X) X z H) (hS : va_S (bv_A G) s.heap H locs) (hl : lv_has ls 7 [(4, .int (nI (5 * t))), (0, .ref b), (1, .ref (bv_a G 0)), (2, .ref (bv_a G 43)), (3, .ref (bv_a G 62))])
    (kk : ∀ (X' : bv_X) (z' : bv_Z) (H : Heap) (locs : List Loc) (ls : Array Slot), bv_I (t + 1) X' → bv_H G (bv_vw X') X' z' H → va_S (bv_A G) s.heap H locs → lv_has ls 7 [(4, .int (nI (5 * t))), (0, .ref b), (1, .ref (bv_a G 0)), (2, .ref (bv_a G 43)), (3, .ref (bv_a G 62))] → W p l e room_1 s m #[Value.ref b] below meth c H locs (cells + 6) (slots + 36) Q (F0 m 1378 ls [])) : W p l e room_1 s m #[Value.ref b] below meth c H locs cells slots Q (F0 m 1098 ls []) := by
  obtain ⟨hx, hb, hr, hml, hown, hts, hX, hbl, hlocks, hgv⟩ := C0
  have hts : ∀ w ∈ wsL_law, w.before #[Value.ref b] s = true := fun w h => hts w (wsL_law_in w h)
  have hown : s.vm.findClass RL = some m.cls := hown
  have hbA : ¬ bv_A G b := by unfold bv_A; rw [hz]; exact Nat.not_le.mpr hbl
  have hz9 : bv_n G ≤ s.heap.size := Nat.le_of_eq hz
  have hv1 : vp_in (nI (5 * t) + 1) L := by rw [show (1 : Int32) = nI 1 from rfl, nI_add]; exact vp_in_nI (by omega) (by omega)
  have hI9 : bv_I (t + 1) (sp_mayAll X (xs (nI (5 * t) + 1).toNatClampNeg)).2.2 := bv_I_mayAll hI _
  have fin : ∀ (H : Heap) (locs : List Loc) (ls : Array Slot) (z9 : bv_Z), bv_I (t + 1) (sp_mayAll X (xs (nI (5 * t) + 1).toNatClampNeg)).2.2 → bv_H G (bv_vw (sp_mayAll X (xs (nI (5 * t) + 1).toNatClampNeg)).2.2) (sp_mayAll X (xs (nI (5 * t) + 1).toNatClampNeg)).2.2 z9 H → va_S (bv_A G) s.heap H locs → lv_has ls 7 [(4, .int (nI (5 * t))), (0, .ref b), (1, .ref (bv_a G 0)), (2, .ref (bv_a G 43)), (3, .ref (bv_a G 62))] → W p l e room_1 s m #[Value.ref b] below meth c H locs (cells + 1 + 0 + 0) (slots + 6 + 0 + 0) Q (F0 m 1378 ls []) := fun H locs ls z9 h1 h2 h3 h4 => W.widen (k := cells + 6) (n := slots + 36) (by omega) (by omega) (kk _ z9 H locs ls h1 h2 h3 h4)
  refine lv_aload_n hx hb dL_law_1098 rfl (lv_at hl 2 rfl) ?_
  refine lv_aload_n hx hb dL_law_1099 rfl (lv_at hl 1 rfl) ?_
  refine lv_iload hx hb dL_law_1100 (lv_at hl 0 rfl) ?_
  refine lv_iconst (v := 1) hx hb dL_law_1102 (by decide) ?_
  refine lv_iadd hx hb dL_law_1103 ?_
  refine va_sld hx hb hX hbl hbA hS hv1 dL_law_1104 ?_
  refine lv_aload_n hx hb dL_law_1105 rfl (lv_at hl 4 rfl) ?_
  refine bv_ci (vx_runSW (As := [.ref (bv_a G 0), .int (xs (nI (5 * t) + 1).toNatClampNeg), .ref (bv_a G 62)]) (rest := []) ⟨hx, hb, hml, hown, hts⟩ (c_L_mayAll l hlt G X X z t (xs (nI (5 * t) + 1).toNatClampNeg) ht hI) (vx_cwSW 3 hts gL_law_L_mayAll rfl rfl rfl (by decide +kernel) ⟨Nat.le_of_ble_eq_true rfl, Nat.le_of_ble_eq_true rfl⟩) (bv_preS hz9 hP hK hE hS) rfl rfl hl.1 rfl (lv_room (Nat.le_of_ble_eq_true rfl)) dL_law_1106 ⟨show cells + 1 ≤ 640723 by omega, show slots + 6 ≤ 7173936 by omega⟩) hS (fun H locs hP hS => ?_)
  refine lv_istore (lv' := [(5, .int (sp_mayAll X (xs (nI (5 * t) + 1).toNatClampNeg)).1), (4, .int (nI (5 * t))), (0, .ref b), (1, .ref (bv_a G 0)), (2, .ref (bv_a G 43)), (3, .ref (bv_a G 62))]) hx hb dL_law_1109 hl (by decide) rfl (fun ls hl => ?_)
  refine lv_aload_n hx hb dL_law_1111 rfl (lv_at hl 4 rfl) ?_
  refine lv_aload_n hx hb dL_law_1112 rfl (lv_at hl 2 rfl) ?_
  refine lv_iload hx hb dL_law_1113 (lv_at hl 1 rfl) ?_
  refine lv_iconst (v := 1) hx hb dL_law_1115 (by decide) ?_
  refine lv_iadd hx hb dL_law_1116 ?_
  refine va_sld hx hb hX hbl hbA hS hv1 dL_law_1117 ?_
  refine bv_ci (va_runV (As := [.int (xs (nI (5 * t) + 1).toNatClampNeg)]) (rest := []) ⟨hx, hb, hml, hown, hts⟩ (c_X3_mayAll l G (bv_vw (sp_mayAll X (xs (nI (5 * t) + 1).toNatClampNeg)).2.2) X (z.1, if (sp_mayAll X (xs (nI (5 * t) + 1).toNatClampNeg)).1 = 0 then (sp_mayAll X (xs (nI (5 * t) + 1).toNatClampNeg)).2.1.toInt64 else z.2) t (xs (nI (5 * t) + 1).toNatClampNeg) ht hI) (cwV 1 hts gL_law_X3_mayAll rfl rfl rfl (by decide +kernel) ⟨Nat.le_of_ble_eq_true rfl, Nat.le_of_ble_eq_true rfl⟩) (bv_preV hz9 hP hK hE hS (ci := 3) (bv_c43 G _ _ _) rfl rfl) rfl rfl hl.1 rfl (lv_room (Nat.le_of_ble_eq_true rfl)) dL_law_1118 ⟨show cells + 1 + 0 ≤ 640723 by omega, show slots + 6 + 0 ≤ 7173936 by omega⟩) hS (fun H locs hP hS => ?_)
  refine lv_istore (lv' := [(6, .int (sp_mayAll X (xs (nI (5 * t) + 1).toNatClampNeg)).2.1), (5, .int (sp_mayAll X (xs (nI (5 * t) + 1).toNatClampNeg)).1), (4, .int (nI (5 * t))), (0, .ref b), (1, .ref (bv_a G 0)), (2, .ref (bv_a G 43)), (3, .ref (bv_a G 62))]) hx hb dL_law_1121 hl (by decide) rfl (fun ls hl => ?_)
  refine lv_aload_n hx hb dL_law_1123 rfl (lv_at hl 5 rfl) ?_
  refine bv_ci (va_runV (As := []) (rest := []) ⟨hx, hb, hml, hown, hts⟩ (c_X3_thrown l G (bv_vw (sp_mayAll X (xs (nI (5 * t) + 1).toNatClampNeg)).2.2) (sp_mayAll X (xs (nI (5 * t) + 1).toNatClampNeg)).2.2 ((sp_mayAll X (xs (nI (5 * t) + 1).toNatClampNeg)).1, ((z.1, if (sp_mayAll X (xs (nI (5 * t) + 1).toNatClampNeg)).1 = 0 then (sp_mayAll X (xs (nI (5 * t) + 1).toNatClampNeg)).2.1.toInt64 else z.2)).2)) (cwV 0 hts gL_law_X3_thrown rfl rfl rfl (by decide +kernel) ⟨Nat.le_of_ble_eq_true rfl, Nat.le_of_ble_eq_true rfl⟩) (bv_preV hz9 hP hK hE hS (ci := 3) (bv_c43 G _ _ _) rfl rfl) rfl rfl hl.1 rfl (lv_room (Nat.le_of_ble_eq_true rfl)) dL_law_1124 ⟨show cells + 1 + 0 + 0 ≤ 640723 by omega, show slots + 6 + 0 + 0 ≤ 7173936 by omega⟩) hS (fun H locs hP hS => ?_)
  refine lv_iload hx hb dL_law_1127 (lv_at hl 1 rfl) ?_
  refine lv_icmp_eq (tgt := 1134) hx hb dL_law_1129 (by decide) (fun c_1 => ?_) (fun c_1 => absurd rfl c_1)
  refine lv_iload hx hb dL_law_1134 (lv_at hl 1 rfl) ?_
  refine lv_if_ne (tgt := 1151) hx hb dL_law_1136 (by decide) (fun c_2 => ?_) (fun c_2 => ?_)
  · refine lv_goto (tgt := 1378) hx hb dL_law_1151 (by decide) ?_
    exact fin  H locs ls _ hI9 hP hS (lv_sub hl [2, 3, 4, 5, 6] rfl)
  · skip
    refine lv_aload_n hx hb dL_law_1139 rfl (lv_at hl 6 rfl) ?_
    refine lv_iconst (v := 0) hx hb dL_law_1140 (by decide) ?_
    refine va_lald hx hb hK.2 hP 62 3 (bv_c62 G _ _ _) rfl (show vp_in (0 : Int32) 1 by unfold vp_in; decide) dL_law_1141 ?_
    refine lv_iload hx hb dL_law_1142 (lv_at hl 0 rfl) ?_
    refine lv_i2l hx hb dL_law_1144 rfl ?_
    refine bv_lcmp hx hb (show (if (sp_mayAll X (xs (nI (5 * t) + 1).toNatClampNeg)).1 = 0 then (sp_mayAll X (xs (nI (5 * t) + 1).toNatClampNeg)).2.1.toInt64 else z.2) = _ by rw [if_pos c_2]) dL_law_1145 ?_
    refine lv_if_eq (tgt := 1151) hx hb dL_law_1146 (by decide) (fun c_9 => ?_) (fun c_9 => absurd rfl c_9)
    refine lv_goto (tgt := 1378) hx hb dL_law_1151 (by decide) ?_
    exact fin H locs ls _ hI9 hP hS (lv_sub hl [2, 3, 4, 5, 6] rfl)
set_option maxHeartbeats 1000000 in
set_option maxRecDepth 100000 in
theorem bv_case_holder {p : Program} {e : Env} {s : State} {m : MethodId} {below : List Frame} {meth : Method} {c : Code} {Q : State → Prop} (l : Launch) (hlt : l.stackTraces = false) {b L t : Nat} {xs : Nat → Int32} {H : Heap} {locs : List Loc} {ls : Array Slot} {cells slots : Nat} (C0 : lw_At p s m meth c b L xs) (G : bv_G) (hz : bv_n G = s.heap.size) (hK : bv_K G s) (hE : bv_En G s s.heap) (X : bv_X) (z : bv_Z) (hI : bv_I t X) (ht : t ≤ 1000) (h5 : 5 * t + 5 ≤ L) (hL : L ≤ 2560) (hc : cells + 6 ≤ 640723) (hs : slots + 36 ≤ 7173936) (hP : bv_H G (bv_vw X) X z H) (hS : va_S (bv_A G) s.heap H locs) (hl : lv_has ls 7 [(4, .int (nI (5 * t))), (0, .ref b), (1, .ref (bv_a G 0)), (2, .ref (bv_a G 43)), (3, .ref (bv_a G 62))])
    (kk : ∀ (X' : bv_X) (z' : bv_Z) (H : Heap) (locs : List Loc) (ls : Array Slot), bv_I (t + 1) X' → bv_H G (bv_vw X') X' z' H → va_S (bv_A G) s.heap H locs → lv_has ls 7 [(4, .int (nI (5 * t))), (0, .ref b), (1, .ref (bv_a G 0)), (2, .ref (bv_a G 43)), (3, .ref (bv_a G 62))] → W p l e room_1 s m #[Value.ref b] below meth c H locs (cells + 6) (slots + 36) Q (F0 m 1378 ls [])) : W p l e room_1 s m #[Value.ref b] below meth c H locs cells slots Q (F0 m 1154 ls []) := by
  obtain ⟨hx, hb, hr, hml, hown, hts, hX, hbl, hlocks, hgv⟩ := C0
  have hts : ∀ w ∈ wsL_law, w.before #[Value.ref b] s = true := fun w h => hts w (wsL_law_in w h)
  have hown : s.vm.findClass RL = some m.cls := hown
  have hbA : ¬ bv_A G b := by unfold bv_A; rw [hz]; exact Nat.not_le.mpr hbl
  have hz9 : bv_n G ≤ s.heap.size := Nat.le_of_eq hz
  have hv1 : vp_in (nI (5 * t) + 1) L := by rw [show (1 : Int32) = nI 1 from rfl, nI_add]; exact vp_in_nI (by omega) (by omega)
  have hI9 : bv_I (t + 1) (sp_holder X (xs (nI (5 * t) + 1).toNatClampNeg)).2.2 := bv_I_holder hI _
  have fin : ∀ (H : Heap) (locs : List Loc) (ls : Array Slot) (z9 : bv_Z), bv_I (t + 1) (sp_holder X (xs (nI (5 * t) + 1).toNatClampNeg)).2.2 → bv_H G (bv_vw (sp_holder X (xs (nI (5 * t) + 1).toNatClampNeg)).2.2) (sp_holder X (xs (nI (5 * t) + 1).toNatClampNeg)).2.2 z9 H → va_S (bv_A G) s.heap H locs → lv_has ls 7 [(4, .int (nI (5 * t))), (0, .ref b), (1, .ref (bv_a G 0)), (2, .ref (bv_a G 43)), (3, .ref (bv_a G 62))] → W p l e room_1 s m #[Value.ref b] below meth c H locs (cells + 1 + 0 + 0) (slots + 6 + 0 + 0) Q (F0 m 1378 ls []) := fun H locs ls z9 h1 h2 h3 h4 => W.widen (k := cells + 6) (n := slots + 36) (by omega) (by omega) (kk _ z9 H locs ls h1 h2 h3 h4)
  refine lv_aload_n hx hb dL_law_1154 rfl (lv_at hl 2 rfl) ?_
  refine lv_aload_n hx hb dL_law_1155 rfl (lv_at hl 1 rfl) ?_
  refine lv_iload hx hb dL_law_1156 (lv_at hl 0 rfl) ?_
  refine lv_iconst (v := 1) hx hb dL_law_1158 (by decide) ?_
  refine lv_iadd hx hb dL_law_1159 ?_
  refine va_sld hx hb hX hbl hbA hS hv1 dL_law_1160 ?_
  refine lv_aload_n hx hb dL_law_1161 rfl (lv_at hl 4 rfl) ?_
  refine bv_ci (vx_runSW (As := [.ref (bv_a G 0), .int (xs (nI (5 * t) + 1).toNatClampNeg), .ref (bv_a G 62)]) (rest := []) ⟨hx, hb, hml, hown, hts⟩ (c_L_holder l hlt G X X z t (xs (nI (5 * t) + 1).toNatClampNeg) ht hI) (vx_cwSW 3 hts gL_law_L_holder rfl rfl rfl (by decide +kernel) ⟨Nat.le_of_ble_eq_true rfl, Nat.le_of_ble_eq_true rfl⟩) (bv_preS hz9 hP hK hE hS) rfl rfl hl.1 rfl (lv_room (Nat.le_of_ble_eq_true rfl)) dL_law_1162 ⟨show cells + 1 ≤ 640723 by omega, show slots + 6 ≤ 7173936 by omega⟩) hS (fun H locs hP hS => ?_)
  refine lv_istore (lv' := [(5, .int (sp_holder X (xs (nI (5 * t) + 1).toNatClampNeg)).1), (4, .int (nI (5 * t))), (0, .ref b), (1, .ref (bv_a G 0)), (2, .ref (bv_a G 43)), (3, .ref (bv_a G 62))]) hx hb dL_law_1165 hl (by decide) rfl (fun ls hl => ?_)
  refine lv_aload_n hx hb dL_law_1167 rfl (lv_at hl 4 rfl) ?_
  refine lv_aload_n hx hb dL_law_1168 rfl (lv_at hl 2 rfl) ?_
  refine lv_iload hx hb dL_law_1169 (lv_at hl 1 rfl) ?_
  refine lv_iconst (v := 1) hx hb dL_law_1171 (by decide) ?_
  refine lv_iadd hx hb dL_law_1172 ?_
  refine va_sld hx hb hX hbl hbA hS hv1 dL_law_1173 ?_
  refine bv_ci (va_runV (As := [.int (xs (nI (5 * t) + 1).toNatClampNeg)]) (rest := []) ⟨hx, hb, hml, hown, hts⟩ (c_X3_holder l G (bv_vw (sp_holder X (xs (nI (5 * t) + 1).toNatClampNeg)).2.2) X (z.1, if (sp_holder X (xs (nI (5 * t) + 1).toNatClampNeg)).1 = 0 then (sp_holder X (xs (nI (5 * t) + 1).toNatClampNeg)).2.1.toInt64 else z.2) t (xs (nI (5 * t) + 1).toNatClampNeg) ht hI) (cwV 1 hts gL_law_X3_holder rfl rfl rfl (by decide +kernel) ⟨Nat.le_of_ble_eq_true rfl, Nat.le_of_ble_eq_true rfl⟩) (bv_preV hz9 hP hK hE hS (ci := 3) (bv_c43 G _ _ _) rfl rfl) rfl rfl hl.1 rfl (lv_room (Nat.le_of_ble_eq_true rfl)) dL_law_1174 ⟨show cells + 1 + 0 ≤ 640723 by omega, show slots + 6 + 0 ≤ 7173936 by omega⟩) hS (fun H locs hP hS => ?_)
  refine lv_istore (lv' := [(6, .int (sp_holder X (xs (nI (5 * t) + 1).toNatClampNeg)).2.1), (5, .int (sp_holder X (xs (nI (5 * t) + 1).toNatClampNeg)).1), (4, .int (nI (5 * t))), (0, .ref b), (1, .ref (bv_a G 0)), (2, .ref (bv_a G 43)), (3, .ref (bv_a G 62))]) hx hb dL_law_1177 hl (by decide) rfl (fun ls hl => ?_)
  refine lv_aload_n hx hb dL_law_1179 rfl (lv_at hl 5 rfl) ?_
  refine bv_ci (va_runV (As := []) (rest := []) ⟨hx, hb, hml, hown, hts⟩ (c_X3_thrown l G (bv_vw (sp_holder X (xs (nI (5 * t) + 1).toNatClampNeg)).2.2) (sp_holder X (xs (nI (5 * t) + 1).toNatClampNeg)).2.2 ((sp_holder X (xs (nI (5 * t) + 1).toNatClampNeg)).1, ((z.1, if (sp_holder X (xs (nI (5 * t) + 1).toNatClampNeg)).1 = 0 then (sp_holder X (xs (nI (5 * t) + 1).toNatClampNeg)).2.1.toInt64 else z.2)).2)) (cwV 0 hts gL_law_X3_thrown rfl rfl rfl (by decide +kernel) ⟨Nat.le_of_ble_eq_true rfl, Nat.le_of_ble_eq_true rfl⟩) (bv_preV hz9 hP hK hE hS (ci := 3) (bv_c43 G _ _ _) rfl rfl) rfl rfl hl.1 rfl (lv_room (Nat.le_of_ble_eq_true rfl)) dL_law_1180 ⟨show cells + 1 + 0 + 0 ≤ 640723 by omega, show slots + 6 + 0 + 0 ≤ 7173936 by omega⟩) hS (fun H locs hP hS => ?_)
  refine lv_iload hx hb dL_law_1183 (lv_at hl 1 rfl) ?_
  refine lv_icmp_eq (tgt := 1190) hx hb dL_law_1185 (by decide) (fun c_1 => ?_) (fun c_1 => absurd rfl c_1)
  refine lv_iload hx hb dL_law_1190 (lv_at hl 1 rfl) ?_
  refine lv_if_ne (tgt := 1207) hx hb dL_law_1192 (by decide) (fun c_2 => ?_) (fun c_2 => ?_)
  · refine lv_goto (tgt := 1378) hx hb dL_law_1207 (by decide) ?_
    exact fin  H locs ls _ hI9 hP hS (lv_sub hl [2, 3, 4, 5, 6] rfl)
  · skip
    refine lv_aload_n hx hb dL_law_1195 rfl (lv_at hl 6 rfl) ?_
    refine lv_iconst (v := 0) hx hb dL_law_1196 (by decide) ?_
    refine va_lald hx hb hK.2 hP 62 3 (bv_c62 G _ _ _) rfl (show vp_in (0 : Int32) 1 by unfold vp_in; decide) dL_law_1197 ?_
    refine lv_iload hx hb dL_law_1198 (lv_at hl 0 rfl) ?_
    refine lv_i2l hx hb dL_law_1200 rfl ?_
    refine bv_lcmp hx hb (show (if (sp_holder X (xs (nI (5 * t) + 1).toNatClampNeg)).1 = 0 then (sp_holder X (xs (nI (5 * t) + 1).toNatClampNeg)).2.1.toInt64 else z.2) = _ by rw [if_pos c_2]) dL_law_1201 ?_
    refine lv_if_eq (tgt := 1207) hx hb dL_law_1202 (by decide) (fun c_9 => ?_) (fun c_9 => absurd rfl c_9)
    refine lv_goto (tgt := 1378) hx hb dL_law_1207 (by decide) ?_
    exact fin H locs ls _ hI9 hP hS (lv_sub hl [2, 3, 4, 5, 6] rfl)
set_option maxHeartbeats 1000000 in
set_option maxRecDepth 100000 in
theorem bv_case_notices {p : Program} {e : Env} {s : State} {m : MethodId} {below : List Frame} {meth : Method} {c : Code} {Q : State → Prop} (l : Launch) (hlt : l.stackTraces = false) {b L t : Nat} {xs : Nat → Int32} {H : Heap} {locs : List Loc} {ls : Array Slot} {cells slots : Nat} (C0 : lw_At p s m meth c b L xs) (G : bv_G) (hz : bv_n G = s.heap.size) (hK : bv_K G s) (hE : bv_En G s s.heap) (X : bv_X) (z : bv_Z) (hI : bv_I t X) (ht : t ≤ 1000) (h5 : 5 * t + 5 ≤ L) (hL : L ≤ 2560) (hc : cells + 6 ≤ 640723) (hs : slots + 36 ≤ 7173936) (hP : bv_H G (bv_vw X) X z H) (hS : va_S (bv_A G) s.heap H locs) (hl : lv_has ls 7 [(4, .int (nI (5 * t))), (0, .ref b), (1, .ref (bv_a G 0)), (2, .ref (bv_a G 43)), (3, .ref (bv_a G 62))])
    (kk : ∀ (X' : bv_X) (z' : bv_Z) (H : Heap) (locs : List Loc) (ls : Array Slot), bv_I (t + 1) X' → bv_H G (bv_vw X') X' z' H → va_S (bv_A G) s.heap H locs → lv_has ls 7 [(4, .int (nI (5 * t))), (0, .ref b), (1, .ref (bv_a G 0)), (2, .ref (bv_a G 43)), (3, .ref (bv_a G 62))] → W p l e room_1 s m #[Value.ref b] below meth c H locs (cells + 6) (slots + 36) Q (F0 m 1378 ls [])) : W p l e room_1 s m #[Value.ref b] below meth c H locs cells slots Q (F0 m 1210 ls []) := by
  obtain ⟨hx, hb, hr, hml, hown, hts, hX, hbl, hlocks, hgv⟩ := C0
  have hts : ∀ w ∈ wsL_law, w.before #[Value.ref b] s = true := fun w h => hts w (wsL_law_in w h)
  have hown : s.vm.findClass RL = some m.cls := hown
  have hbA : ¬ bv_A G b := by unfold bv_A; rw [hz]; exact Nat.not_le.mpr hbl
  have hz9 : bv_n G ≤ s.heap.size := Nat.le_of_eq hz
  have hv1 : vp_in (nI (5 * t) + 1) L := by rw [show (1 : Int32) = nI 1 from rfl, nI_add]; exact vp_in_nI (by omega) (by omega)
  have hI9 : bv_I (t + 1) (sp_notices X (xs (nI (5 * t) + 1).toNatClampNeg)).2.2 := bv_I_notices hI _
  have fin : ∀ (H : Heap) (locs : List Loc) (ls : Array Slot) (z9 : bv_Z), bv_I (t + 1) (sp_notices X (xs (nI (5 * t) + 1).toNatClampNeg)).2.2 → bv_H G (bv_vw (sp_notices X (xs (nI (5 * t) + 1).toNatClampNeg)).2.2) (sp_notices X (xs (nI (5 * t) + 1).toNatClampNeg)).2.2 z9 H → va_S (bv_A G) s.heap H locs → lv_has ls 7 [(4, .int (nI (5 * t))), (0, .ref b), (1, .ref (bv_a G 0)), (2, .ref (bv_a G 43)), (3, .ref (bv_a G 62))] → W p l e room_1 s m #[Value.ref b] below meth c H locs (cells + 1 + 0 + 0) (slots + 6 + 0 + 0) Q (F0 m 1378 ls []) := fun H locs ls z9 h1 h2 h3 h4 => W.widen (k := cells + 6) (n := slots + 36) (by omega) (by omega) (kk _ z9 H locs ls h1 h2 h3 h4)
  refine lv_aload_n hx hb dL_law_1210 rfl (lv_at hl 2 rfl) ?_
  refine lv_aload_n hx hb dL_law_1211 rfl (lv_at hl 1 rfl) ?_
  refine lv_iload hx hb dL_law_1212 (lv_at hl 0 rfl) ?_
  refine lv_iconst (v := 1) hx hb dL_law_1214 (by decide) ?_
  refine lv_iadd hx hb dL_law_1215 ?_
  refine va_sld hx hb hX hbl hbA hS hv1 dL_law_1216 ?_
  refine lv_aload_n hx hb dL_law_1217 rfl (lv_at hl 4 rfl) ?_
  refine bv_ci (vx_runSW (As := [.ref (bv_a G 0), .int (xs (nI (5 * t) + 1).toNatClampNeg), .ref (bv_a G 62)]) (rest := []) ⟨hx, hb, hml, hown, hts⟩ (c_L_notices l hlt G X X z t (xs (nI (5 * t) + 1).toNatClampNeg) ht hI) (vx_cwSW 3 hts gL_law_L_notices rfl rfl rfl (by decide +kernel) ⟨Nat.le_of_ble_eq_true rfl, Nat.le_of_ble_eq_true rfl⟩) (bv_preS hz9 hP hK hE hS) rfl rfl hl.1 rfl (lv_room (Nat.le_of_ble_eq_true rfl)) dL_law_1218 ⟨show cells + 1 ≤ 640723 by omega, show slots + 6 ≤ 7173936 by omega⟩) hS (fun H locs hP hS => ?_)
  refine lv_istore (lv' := [(5, .int (sp_notices X (xs (nI (5 * t) + 1).toNatClampNeg)).1), (4, .int (nI (5 * t))), (0, .ref b), (1, .ref (bv_a G 0)), (2, .ref (bv_a G 43)), (3, .ref (bv_a G 62))]) hx hb dL_law_1221 hl (by decide) rfl (fun ls hl => ?_)
  refine lv_aload_n hx hb dL_law_1223 rfl (lv_at hl 4 rfl) ?_
  refine lv_aload_n hx hb dL_law_1224 rfl (lv_at hl 2 rfl) ?_
  refine lv_iload hx hb dL_law_1225 (lv_at hl 1 rfl) ?_
  refine lv_iconst (v := 1) hx hb dL_law_1227 (by decide) ?_
  refine lv_iadd hx hb dL_law_1228 ?_
  refine va_sld hx hb hX hbl hbA hS hv1 dL_law_1229 ?_
  refine bv_ci (va_runV (As := [.int (xs (nI (5 * t) + 1).toNatClampNeg)]) (rest := []) ⟨hx, hb, hml, hown, hts⟩ (c_X3_notices l G (bv_vw (sp_notices X (xs (nI (5 * t) + 1).toNatClampNeg)).2.2) X (z.1, if (sp_notices X (xs (nI (5 * t) + 1).toNatClampNeg)).1 = 0 then (sp_notices X (xs (nI (5 * t) + 1).toNatClampNeg)).2.1.toInt64 else z.2) t (xs (nI (5 * t) + 1).toNatClampNeg) ht hI) (cwV 1 hts gL_law_X3_notices rfl rfl rfl (by decide +kernel) ⟨Nat.le_of_ble_eq_true rfl, Nat.le_of_ble_eq_true rfl⟩) (bv_preV hz9 hP hK hE hS (ci := 3) (bv_c43 G _ _ _) rfl rfl) rfl rfl hl.1 rfl (lv_room (Nat.le_of_ble_eq_true rfl)) dL_law_1230 ⟨show cells + 1 + 0 ≤ 640723 by omega, show slots + 6 + 0 ≤ 7173936 by omega⟩) hS (fun H locs hP hS => ?_)
  refine lv_istore (lv' := [(6, .int (sp_notices X (xs (nI (5 * t) + 1).toNatClampNeg)).2.1), (5, .int (sp_notices X (xs (nI (5 * t) + 1).toNatClampNeg)).1), (4, .int (nI (5 * t))), (0, .ref b), (1, .ref (bv_a G 0)), (2, .ref (bv_a G 43)), (3, .ref (bv_a G 62))]) hx hb dL_law_1233 hl (by decide) rfl (fun ls hl => ?_)
  refine lv_aload_n hx hb dL_law_1235 rfl (lv_at hl 5 rfl) ?_
  refine bv_ci (va_runV (As := []) (rest := []) ⟨hx, hb, hml, hown, hts⟩ (c_X3_thrown l G (bv_vw (sp_notices X (xs (nI (5 * t) + 1).toNatClampNeg)).2.2) (sp_notices X (xs (nI (5 * t) + 1).toNatClampNeg)).2.2 ((sp_notices X (xs (nI (5 * t) + 1).toNatClampNeg)).1, ((z.1, if (sp_notices X (xs (nI (5 * t) + 1).toNatClampNeg)).1 = 0 then (sp_notices X (xs (nI (5 * t) + 1).toNatClampNeg)).2.1.toInt64 else z.2)).2)) (cwV 0 hts gL_law_X3_thrown rfl rfl rfl (by decide +kernel) ⟨Nat.le_of_ble_eq_true rfl, Nat.le_of_ble_eq_true rfl⟩) (bv_preV hz9 hP hK hE hS (ci := 3) (bv_c43 G _ _ _) rfl rfl) rfl rfl hl.1 rfl (lv_room (Nat.le_of_ble_eq_true rfl)) dL_law_1236 ⟨show cells + 1 + 0 + 0 ≤ 640723 by omega, show slots + 6 + 0 + 0 ≤ 7173936 by omega⟩) hS (fun H locs hP hS => ?_)
  refine lv_iload hx hb dL_law_1239 (lv_at hl 1 rfl) ?_
  refine lv_icmp_eq (tgt := 1246) hx hb dL_law_1241 (by decide) (fun c_1 => ?_) (fun c_1 => absurd rfl c_1)
  refine lv_iload hx hb dL_law_1246 (lv_at hl 1 rfl) ?_
  refine lv_if_ne (tgt := 1263) hx hb dL_law_1248 (by decide) (fun c_2 => ?_) (fun c_2 => ?_)
  · refine lv_goto (tgt := 1378) hx hb dL_law_1263 (by decide) ?_
    exact fin  H locs ls _ hI9 hP hS (lv_sub hl [2, 3, 4, 5, 6] rfl)
  · skip
    refine lv_aload_n hx hb dL_law_1251 rfl (lv_at hl 6 rfl) ?_
    refine lv_iconst (v := 0) hx hb dL_law_1252 (by decide) ?_
    refine va_lald hx hb hK.2 hP 62 3 (bv_c62 G _ _ _) rfl (show vp_in (0 : Int32) 1 by unfold vp_in; decide) dL_law_1253 ?_
    refine lv_iload hx hb dL_law_1254 (lv_at hl 0 rfl) ?_
    refine lv_i2l hx hb dL_law_1256 rfl ?_
    refine bv_lcmp hx hb (show (if (sp_notices X (xs (nI (5 * t) + 1).toNatClampNeg)).1 = 0 then (sp_notices X (xs (nI (5 * t) + 1).toNatClampNeg)).2.1.toInt64 else z.2) = _ by rw [if_pos c_2]) dL_law_1257 ?_
    refine lv_if_eq (tgt := 1263) hx hb dL_law_1258 (by decide) (fun c_9 => ?_) (fun c_9 => absurd rfl c_9)
    refine lv_goto (tgt := 1378) hx hb dL_law_1263 (by decide) ?_
    exact fin H locs ls _ hI9 hP hS (lv_sub hl [2, 3, 4, 5, 6] rfl)
set_option maxHeartbeats 1000000 in
set_option maxRecDepth 100000 in
theorem bv_case_refusals {p : Program} {e : Env} {s : State} {m : MethodId} {below : List Frame} {meth : Method} {c : Code} {Q : State → Prop} (l : Launch) (hlt : l.stackTraces = false) {b L t : Nat} {xs : Nat → Int32} {H : Heap} {locs : List Loc} {ls : Array Slot} {cells slots : Nat} (C0 : lw_At p s m meth c b L xs) (G : bv_G) (hz : bv_n G = s.heap.size) (hK : bv_K G s) (hE : bv_En G s s.heap) (X : bv_X) (z : bv_Z) (hI : bv_I t X) (ht : t ≤ 1000) (h5 : 5 * t + 5 ≤ L) (hL : L ≤ 2560) (hc : cells + 6 ≤ 640723) (hs : slots + 36 ≤ 7173936) (hP : bv_H G (bv_vw X) X z H) (hS : va_S (bv_A G) s.heap H locs) (hl : lv_has ls 7 [(4, .int (nI (5 * t))), (0, .ref b), (1, .ref (bv_a G 0)), (2, .ref (bv_a G 43)), (3, .ref (bv_a G 62))])
    (kk : ∀ (X' : bv_X) (z' : bv_Z) (H : Heap) (locs : List Loc) (ls : Array Slot), bv_I (t + 1) X' → bv_H G (bv_vw X') X' z' H → va_S (bv_A G) s.heap H locs → lv_has ls 7 [(4, .int (nI (5 * t))), (0, .ref b), (1, .ref (bv_a G 0)), (2, .ref (bv_a G 43)), (3, .ref (bv_a G 62))] → W p l e room_1 s m #[Value.ref b] below meth c H locs (cells + 6) (slots + 36) Q (F0 m 1378 ls [])) : W p l e room_1 s m #[Value.ref b] below meth c H locs cells slots Q (F0 m 1266 ls []) := by
  obtain ⟨hx, hb, hr, hml, hown, hts, hX, hbl, hlocks, hgv⟩ := C0
  have hts : ∀ w ∈ wsL_law, w.before #[Value.ref b] s = true := fun w h => hts w (wsL_law_in w h)
  have hown : s.vm.findClass RL = some m.cls := hown
  have hbA : ¬ bv_A G b := by unfold bv_A; rw [hz]; exact Nat.not_le.mpr hbl
  have hz9 : bv_n G ≤ s.heap.size := Nat.le_of_eq hz
  have hv1 : vp_in (nI (5 * t) + 1) L := by rw [show (1 : Int32) = nI 1 from rfl, nI_add]; exact vp_in_nI (by omega) (by omega)
  have hI9 : bv_I (t + 1) (sp_refusals X (xs (nI (5 * t) + 1).toNatClampNeg)).2.2 := bv_I_refusals hI _
  have fin : ∀ (H : Heap) (locs : List Loc) (ls : Array Slot) (z9 : bv_Z), bv_I (t + 1) (sp_refusals X (xs (nI (5 * t) + 1).toNatClampNeg)).2.2 → bv_H G (bv_vw (sp_refusals X (xs (nI (5 * t) + 1).toNatClampNeg)).2.2) (sp_refusals X (xs (nI (5 * t) + 1).toNatClampNeg)).2.2 z9 H → va_S (bv_A G) s.heap H locs → lv_has ls 7 [(4, .int (nI (5 * t))), (0, .ref b), (1, .ref (bv_a G 0)), (2, .ref (bv_a G 43)), (3, .ref (bv_a G 62))] → W p l e room_1 s m #[Value.ref b] below meth c H locs (cells + 1 + 0 + 0) (slots + 6 + 0 + 0) Q (F0 m 1378 ls []) := fun H locs ls z9 h1 h2 h3 h4 => W.widen (k := cells + 6) (n := slots + 36) (by omega) (by omega) (kk _ z9 H locs ls h1 h2 h3 h4)
  refine lv_aload_n hx hb dL_law_1266 rfl (lv_at hl 2 rfl) ?_
  refine lv_aload_n hx hb dL_law_1267 rfl (lv_at hl 1 rfl) ?_
  refine lv_iload hx hb dL_law_1268 (lv_at hl 0 rfl) ?_
  refine lv_iconst (v := 1) hx hb dL_law_1270 (by decide) ?_
  refine lv_iadd hx hb dL_law_1271 ?_
  refine va_sld hx hb hX hbl hbA hS hv1 dL_law_1272 ?_
  refine lv_aload_n hx hb dL_law_1273 rfl (lv_at hl 4 rfl) ?_
  refine bv_ci (vx_runSW (As := [.ref (bv_a G 0), .int (xs (nI (5 * t) + 1).toNatClampNeg), .ref (bv_a G 62)]) (rest := []) ⟨hx, hb, hml, hown, hts⟩ (c_L_refusals l hlt G X X z t (xs (nI (5 * t) + 1).toNatClampNeg) ht hI) (vx_cwSW 3 hts gL_law_L_refusals rfl rfl rfl (by decide +kernel) ⟨Nat.le_of_ble_eq_true rfl, Nat.le_of_ble_eq_true rfl⟩) (bv_preS hz9 hP hK hE hS) rfl rfl hl.1 rfl (lv_room (Nat.le_of_ble_eq_true rfl)) dL_law_1274 ⟨show cells + 1 ≤ 640723 by omega, show slots + 6 ≤ 7173936 by omega⟩) hS (fun H locs hP hS => ?_)
  refine lv_istore (lv' := [(5, .int (sp_refusals X (xs (nI (5 * t) + 1).toNatClampNeg)).1), (4, .int (nI (5 * t))), (0, .ref b), (1, .ref (bv_a G 0)), (2, .ref (bv_a G 43)), (3, .ref (bv_a G 62))]) hx hb dL_law_1277 hl (by decide) rfl (fun ls hl => ?_)
  refine lv_aload_n hx hb dL_law_1279 rfl (lv_at hl 4 rfl) ?_
  refine lv_aload_n hx hb dL_law_1280 rfl (lv_at hl 2 rfl) ?_
  refine lv_iload hx hb dL_law_1281 (lv_at hl 1 rfl) ?_
  refine lv_iconst (v := 1) hx hb dL_law_1283 (by decide) ?_
  refine lv_iadd hx hb dL_law_1284 ?_
  refine va_sld hx hb hX hbl hbA hS hv1 dL_law_1285 ?_
  refine bv_ci (va_runV (As := [.int (xs (nI (5 * t) + 1).toNatClampNeg)]) (rest := []) ⟨hx, hb, hml, hown, hts⟩ (c_X3_refusals l G (bv_vw (sp_refusals X (xs (nI (5 * t) + 1).toNatClampNeg)).2.2) X (z.1, if (sp_refusals X (xs (nI (5 * t) + 1).toNatClampNeg)).1 = 0 then (sp_refusals X (xs (nI (5 * t) + 1).toNatClampNeg)).2.1.toInt64 else z.2) t (xs (nI (5 * t) + 1).toNatClampNeg) ht hI) (cwV 1 hts gL_law_X3_refusals rfl rfl rfl (by decide +kernel) ⟨Nat.le_of_ble_eq_true rfl, Nat.le_of_ble_eq_true rfl⟩) (bv_preV hz9 hP hK hE hS (ci := 3) (bv_c43 G _ _ _) rfl rfl) rfl rfl hl.1 rfl (lv_room (Nat.le_of_ble_eq_true rfl)) dL_law_1286 ⟨show cells + 1 + 0 ≤ 640723 by omega, show slots + 6 + 0 ≤ 7173936 by omega⟩) hS (fun H locs hP hS => ?_)
  refine lv_istore (lv' := [(6, .int (sp_refusals X (xs (nI (5 * t) + 1).toNatClampNeg)).2.1), (5, .int (sp_refusals X (xs (nI (5 * t) + 1).toNatClampNeg)).1), (4, .int (nI (5 * t))), (0, .ref b), (1, .ref (bv_a G 0)), (2, .ref (bv_a G 43)), (3, .ref (bv_a G 62))]) hx hb dL_law_1289 hl (by decide) rfl (fun ls hl => ?_)
  refine lv_aload_n hx hb dL_law_1291 rfl (lv_at hl 5 rfl) ?_
  refine bv_ci (va_runV (As := []) (rest := []) ⟨hx, hb, hml, hown, hts⟩ (c_X3_thrown l G (bv_vw (sp_refusals X (xs (nI (5 * t) + 1).toNatClampNeg)).2.2) (sp_refusals X (xs (nI (5 * t) + 1).toNatClampNeg)).2.2 ((sp_refusals X (xs (nI (5 * t) + 1).toNatClampNeg)).1, ((z.1, if (sp_refusals X (xs (nI (5 * t) + 1).toNatClampNeg)).1 = 0 then (sp_refusals X (xs (nI (5 * t) + 1).toNatClampNeg)).2.1.toInt64 else z.2)).2)) (cwV 0 hts gL_law_X3_thrown rfl rfl rfl (by decide +kernel) ⟨Nat.le_of_ble_eq_true rfl, Nat.le_of_ble_eq_true rfl⟩) (bv_preV hz9 hP hK hE hS (ci := 3) (bv_c43 G _ _ _) rfl rfl) rfl rfl hl.1 rfl (lv_room (Nat.le_of_ble_eq_true rfl)) dL_law_1292 ⟨show cells + 1 + 0 + 0 ≤ 640723 by omega, show slots + 6 + 0 + 0 ≤ 7173936 by omega⟩) hS (fun H locs hP hS => ?_)
  refine lv_iload hx hb dL_law_1295 (lv_at hl 1 rfl) ?_
  refine lv_icmp_eq (tgt := 1302) hx hb dL_law_1297 (by decide) (fun c_1 => ?_) (fun c_1 => absurd rfl c_1)
  refine lv_iload hx hb dL_law_1302 (lv_at hl 1 rfl) ?_
  refine lv_if_ne (tgt := 1319) hx hb dL_law_1304 (by decide) (fun c_2 => ?_) (fun c_2 => ?_)
  · refine lv_goto (tgt := 1378) hx hb dL_law_1319 (by decide) ?_
    exact fin  H locs ls _ hI9 hP hS (lv_sub hl [2, 3, 4, 5, 6] rfl)
  · skip
    refine lv_aload_n hx hb dL_law_1307 rfl (lv_at hl 6 rfl) ?_
    refine lv_iconst (v := 0) hx hb dL_law_1308 (by decide) ?_
    refine va_lald hx hb hK.2 hP 62 3 (bv_c62 G _ _ _) rfl (show vp_in (0 : Int32) 1 by unfold vp_in; decide) dL_law_1309 ?_
    refine lv_iload hx hb dL_law_1310 (lv_at hl 0 rfl) ?_
    refine lv_i2l hx hb dL_law_1312 rfl ?_
    refine bv_lcmp hx hb (show (if (sp_refusals X (xs (nI (5 * t) + 1).toNatClampNeg)).1 = 0 then (sp_refusals X (xs (nI (5 * t) + 1).toNatClampNeg)).2.1.toInt64 else z.2) = _ by rw [if_pos c_2]) dL_law_1313 ?_
    refine lv_if_eq (tgt := 1319) hx hb dL_law_1314 (by decide) (fun c_9 => ?_) (fun c_9 => absurd rfl c_9)
    refine lv_goto (tgt := 1378) hx hb dL_law_1319 (by decide) ?_
    exact fin H locs ls _ hI9 hP hS (lv_sub hl [2, 3, 4, 5, 6] rfl)
set_option maxHeartbeats 1000000 in
set_option maxRecDepth 100000 in
theorem bv_case_binding {p : Program} {e : Env} {s : State} {m : MethodId} {below : List Frame} {meth : Method} {c : Code} {Q : State → Prop} (l : Launch) (hlt : l.stackTraces = false) {b L t : Nat} {xs : Nat → Int32} {H : Heap} {locs : List Loc} {ls : Array Slot} {cells slots : Nat} (C0 : lw_At p s m meth c b L xs) (G : bv_G) (hz : bv_n G = s.heap.size) (hK : bv_K G s) (hE : bv_En G s s.heap) (X : bv_X) (z : bv_Z) (hI : bv_I t X) (ht : t ≤ 1000) (h5 : 5 * t + 5 ≤ L) (hL : L ≤ 2560) (hc : cells + 6 ≤ 640723) (hs : slots + 36 ≤ 7173936) (hP : bv_H G (bv_vw X) X z H) (hS : va_S (bv_A G) s.heap H locs) (hl : lv_has ls 7 [(4, .int (nI (5 * t))), (0, .ref b), (1, .ref (bv_a G 0)), (2, .ref (bv_a G 43)), (3, .ref (bv_a G 62))])
    (kk : ∀ (X' : bv_X) (z' : bv_Z) (H : Heap) (locs : List Loc) (ls : Array Slot), bv_I (t + 1) X' → bv_H G (bv_vw X') X' z' H → va_S (bv_A G) s.heap H locs → lv_has ls 7 [(4, .int (nI (5 * t))), (0, .ref b), (1, .ref (bv_a G 0)), (2, .ref (bv_a G 43)), (3, .ref (bv_a G 62))] → W p l e room_1 s m #[Value.ref b] below meth c H locs (cells + 6) (slots + 36) Q (F0 m 1378 ls [])) : W p l e room_1 s m #[Value.ref b] below meth c H locs cells slots Q (F0 m 1322 ls []) := by
  obtain ⟨hx, hb, hr, hml, hown, hts, hX, hbl, hlocks, hgv⟩ := C0
  have hts : ∀ w ∈ wsL_law, w.before #[Value.ref b] s = true := fun w h => hts w (wsL_law_in w h)
  have hown : s.vm.findClass RL = some m.cls := hown
  have hbA : ¬ bv_A G b := by unfold bv_A; rw [hz]; exact Nat.not_le.mpr hbl
  have hz9 : bv_n G ≤ s.heap.size := Nat.le_of_eq hz
  have hv1 : vp_in (nI (5 * t) + 1) L := by rw [show (1 : Int32) = nI 1 from rfl, nI_add]; exact vp_in_nI (by omega) (by omega)
  have hI9 : bv_I (t + 1) (sp_binding X (xs (nI (5 * t) + 1).toNatClampNeg)).2.2 := bv_I_binding hI _
  have fin : ∀ (H : Heap) (locs : List Loc) (ls : Array Slot) (z9 : bv_Z), bv_I (t + 1) (sp_binding X (xs (nI (5 * t) + 1).toNatClampNeg)).2.2 → bv_H G (bv_vw (sp_binding X (xs (nI (5 * t) + 1).toNatClampNeg)).2.2) (sp_binding X (xs (nI (5 * t) + 1).toNatClampNeg)).2.2 z9 H → va_S (bv_A G) s.heap H locs → lv_has ls 7 [(4, .int (nI (5 * t))), (0, .ref b), (1, .ref (bv_a G 0)), (2, .ref (bv_a G 43)), (3, .ref (bv_a G 62))] → W p l e room_1 s m #[Value.ref b] below meth c H locs (cells + 1 + 0 + 0) (slots + 6 + 0 + 0) Q (F0 m 1378 ls []) := fun H locs ls z9 h1 h2 h3 h4 => W.widen (k := cells + 6) (n := slots + 36) (by omega) (by omega) (kk _ z9 H locs ls h1 h2 h3 h4)
  refine lv_aload_n hx hb dL_law_1322 rfl (lv_at hl 2 rfl) ?_
  refine lv_aload_n hx hb dL_law_1323 rfl (lv_at hl 1 rfl) ?_
  refine lv_iload hx hb dL_law_1324 (lv_at hl 0 rfl) ?_
  refine lv_iconst (v := 1) hx hb dL_law_1326 (by decide) ?_
  refine lv_iadd hx hb dL_law_1327 ?_
  refine va_sld hx hb hX hbl hbA hS hv1 dL_law_1328 ?_
  refine lv_aload_n hx hb dL_law_1329 rfl (lv_at hl 4 rfl) ?_
  refine bv_ci (vx_runSW (As := [.ref (bv_a G 0), .int (xs (nI (5 * t) + 1).toNatClampNeg), .ref (bv_a G 62)]) (rest := []) ⟨hx, hb, hml, hown, hts⟩ (c_L_binding l hlt G X X z t (xs (nI (5 * t) + 1).toNatClampNeg) ht hI) (vx_cwSW 3 hts gL_law_L_binding rfl rfl rfl (by decide +kernel) ⟨Nat.le_of_ble_eq_true rfl, Nat.le_of_ble_eq_true rfl⟩) (bv_preS hz9 hP hK hE hS) rfl rfl hl.1 rfl (lv_room (Nat.le_of_ble_eq_true rfl)) dL_law_1330 ⟨show cells + 1 ≤ 640723 by omega, show slots + 6 ≤ 7173936 by omega⟩) hS (fun H locs hP hS => ?_)
  refine lv_istore (lv' := [(5, .int (sp_binding X (xs (nI (5 * t) + 1).toNatClampNeg)).1), (4, .int (nI (5 * t))), (0, .ref b), (1, .ref (bv_a G 0)), (2, .ref (bv_a G 43)), (3, .ref (bv_a G 62))]) hx hb dL_law_1333 hl (by decide) rfl (fun ls hl => ?_)
  refine lv_aload_n hx hb dL_law_1335 rfl (lv_at hl 4 rfl) ?_
  refine lv_aload_n hx hb dL_law_1336 rfl (lv_at hl 2 rfl) ?_
  refine lv_iload hx hb dL_law_1337 (lv_at hl 1 rfl) ?_
  refine lv_iconst (v := 1) hx hb dL_law_1339 (by decide) ?_
  refine lv_iadd hx hb dL_law_1340 ?_
  refine va_sld hx hb hX hbl hbA hS hv1 dL_law_1341 ?_
  refine bv_ci (va_runV (As := [.int (xs (nI (5 * t) + 1).toNatClampNeg)]) (rest := []) ⟨hx, hb, hml, hown, hts⟩ (c_X3_binding l G (bv_vw (sp_binding X (xs (nI (5 * t) + 1).toNatClampNeg)).2.2) X (z.1, if (sp_binding X (xs (nI (5 * t) + 1).toNatClampNeg)).1 = 0 then (sp_binding X (xs (nI (5 * t) + 1).toNatClampNeg)).2.1.toInt64 else z.2) t (xs (nI (5 * t) + 1).toNatClampNeg) ht hI) (cwV 1 hts gL_law_X3_binding rfl rfl rfl (by decide +kernel) ⟨Nat.le_of_ble_eq_true rfl, Nat.le_of_ble_eq_true rfl⟩) (bv_preV hz9 hP hK hE hS (ci := 3) (bv_c43 G _ _ _) rfl rfl) rfl rfl hl.1 rfl (lv_room (Nat.le_of_ble_eq_true rfl)) dL_law_1342 ⟨show cells + 1 + 0 ≤ 640723 by omega, show slots + 6 + 0 ≤ 7173936 by omega⟩) hS (fun H locs hP hS => ?_)
  refine lv_istore (lv' := [(6, .int (sp_binding X (xs (nI (5 * t) + 1).toNatClampNeg)).2.1), (5, .int (sp_binding X (xs (nI (5 * t) + 1).toNatClampNeg)).1), (4, .int (nI (5 * t))), (0, .ref b), (1, .ref (bv_a G 0)), (2, .ref (bv_a G 43)), (3, .ref (bv_a G 62))]) hx hb dL_law_1345 hl (by decide) rfl (fun ls hl => ?_)
  refine lv_aload_n hx hb dL_law_1347 rfl (lv_at hl 5 rfl) ?_
  refine bv_ci (va_runV (As := []) (rest := []) ⟨hx, hb, hml, hown, hts⟩ (c_X3_thrown l G (bv_vw (sp_binding X (xs (nI (5 * t) + 1).toNatClampNeg)).2.2) (sp_binding X (xs (nI (5 * t) + 1).toNatClampNeg)).2.2 ((sp_binding X (xs (nI (5 * t) + 1).toNatClampNeg)).1, ((z.1, if (sp_binding X (xs (nI (5 * t) + 1).toNatClampNeg)).1 = 0 then (sp_binding X (xs (nI (5 * t) + 1).toNatClampNeg)).2.1.toInt64 else z.2)).2)) (cwV 0 hts gL_law_X3_thrown rfl rfl rfl (by decide +kernel) ⟨Nat.le_of_ble_eq_true rfl, Nat.le_of_ble_eq_true rfl⟩) (bv_preV hz9 hP hK hE hS (ci := 3) (bv_c43 G _ _ _) rfl rfl) rfl rfl hl.1 rfl (lv_room (Nat.le_of_ble_eq_true rfl)) dL_law_1348 ⟨show cells + 1 + 0 + 0 ≤ 640723 by omega, show slots + 6 + 0 + 0 ≤ 7173936 by omega⟩) hS (fun H locs hP hS => ?_)
  refine lv_iload hx hb dL_law_1351 (lv_at hl 1 rfl) ?_
  refine lv_icmp_eq (tgt := 1358) hx hb dL_law_1353 (by decide) (fun c_1 => ?_) (fun c_1 => absurd rfl c_1)
  refine lv_iload hx hb dL_law_1358 (lv_at hl 1 rfl) ?_
  refine lv_if_ne (tgt := 1375) hx hb dL_law_1360 (by decide) (fun c_2 => ?_) (fun c_2 => ?_)
  · refine lv_goto (tgt := 1378) hx hb dL_law_1375 (by decide) ?_
    exact fin  H locs ls _ hI9 hP hS (lv_sub hl [2, 3, 4, 5, 6] rfl)
  · skip
    refine lv_aload_n hx hb dL_law_1363 rfl (lv_at hl 6 rfl) ?_
    refine lv_iconst (v := 0) hx hb dL_law_1364 (by decide) ?_
    refine va_lald hx hb hK.2 hP 62 3 (bv_c62 G _ _ _) rfl (show vp_in (0 : Int32) 1 by unfold vp_in; decide) dL_law_1365 ?_
    refine lv_iload hx hb dL_law_1366 (lv_at hl 0 rfl) ?_
    refine lv_i2l hx hb dL_law_1368 rfl ?_
    refine bv_lcmp hx hb (show (if (sp_binding X (xs (nI (5 * t) + 1).toNatClampNeg)).1 = 0 then (sp_binding X (xs (nI (5 * t) + 1).toNatClampNeg)).2.1.toInt64 else z.2) = _ by rw [if_pos c_2]) dL_law_1369 ?_
    refine lv_if_eq (tgt := 1375) hx hb dL_law_1370 (by decide) (fun c_9 => ?_) (fun c_9 => absurd rfl c_9)
    refine lv_goto (tgt := 1378) hx hb dL_law_1375 (by decide) ?_
    exact fin H locs ls _ hI9 hP hS (lv_sub hl [2, 3, 4, 5, 6] rfl)
