/-! ===== the vault's constructor ===== -/
theorem bv_lastP {D : va_G} {cl : List vw_C} {X : va_W} {x : Nat × va_E} {H : Heap} (h : va_P D cl (X ++ [x]) H) : va_P D cl [x] H := fun k q hq => by
  have hk : k < 1 := (List.getElem?_eq_some_iff.mp hq).1
  obtain rfl : k = 0 := by omega
  exact h X.length q (by rw [List.getElem?_append_right (Nat.le_refl _), Nat.sub_self]; exact hq)
theorem bv_lastD {A : Nat → Prop} {X : va_W} {x : Nat × va_E} (h : va_D A (X ++ [x])) : va_D A [x] := by
  refine ⟨fun i j p q hi hj _ => ?_, fun k q hq => ?_⟩
  · have h1 : i < 1 := (List.getElem?_eq_some_iff.mp hi).1
    have h2 : j < 1 := (List.getElem?_eq_some_iff.mp hj).1
    omega
  · have hk : k < 1 := (List.getElem?_eq_some_iff.mp hq).1
    obtain rfl : k = 0 := by omega
    exact h.2 X.length q (by rw [List.getElem?_append_right (Nat.le_refl _), Nat.sub_self]; exact hq)
theorem bv_lastC {X : va_W} {x : Nat × va_E} : [X.length].map (fun i => (X ++ [x])[i]?) = [x].map some := by simp
theorem bv_nd : ∀ {l : List Nat}, l.Nodup → va_nd l = true
  | [], _ => rfl
  | a :: l, h => by
    have h2 := List.nodup_cons.mp h
    show (decide (a ∉ l) && va_nd l) = true
    rw [bv_nd h2.2, decide_eq_true h2.1]; rfl
theorem bv_restC {X Y : va_W} : (List.range X.length).map (fun i => (X ++ Y)[i]?) = X.map some := by
  apply List.ext_getElem?
  intro i
  rw [List.getElem?_map, List.getElem?_map]
  by_cases h : i < X.length
  · rw [List.getElem?_range h]
    show some ((X ++ Y)[i]?) = _
    rw [List.getElem?_append_left h, List.getElem?_eq_getElem h]; rfl
  · rw [List.getElem?_eq_none (by rw [List.length_range]; omega), List.getElem?_eq_none (by omega)]; rfl
/-- behind a constructor: the other cells, and the new object's -/
theorem bv_join1 {A0 : Nat → Prop} {D : va_G} {cl : List vw_C} {X w1 : va_W} {x : Nat × va_E} {H H1 : Heap} (hP : va_P D cl (X ++ [x]) H) (hD : va_D A0 (X ++ [x])) (hk : ∀ q : Nat, q < H.size → ¬ va_A [x] H.size q → H1[q]? = H[q]?) (hF : ∀ q, va_A [x] H.size q → A0 q) (hP1 : va_P D cl w1 H1) (hD1 : va_D (va_A [x] H.size) w1) : va_P D cl (X ++ w1) H1 ∧ va_D A0 (X ++ w1) :=
  va_join (wr := X) (w1 := w1) hP hD [X.length] (List.range X.length) bv_lastC bv_restC (bv_nd List.nodup_range) (fun i hi h => by
    have h1 := List.mem_range.mp hi
    have h2 : i = X.length := by simpa using h
    omega) hk hF hP1 hD1
theorem bv_D_of {A : Nat → Prop} {ws ws' : va_W} (hD : va_D A ws) (is : List Nat) (hn : va_nd is = true) (hs : is.map (fun i => (ws[i]?).map Prod.fst) = ws'.map (fun q => some q.1)) : va_D A ws' := by
  have at' : ∀ (k : Nat) (q : Nat × va_E), ws'[k]? = some q → ∃ (i : Nat) (x : Nat × va_E), is[k]? = some i ∧ ws[i]? = some x ∧ x.1 = q.1 := by
    intro k q hq
    have h1 : (is.map (fun i => (ws[i]?).map Prod.fst))[k]? = some (some q.1) := by rw [hs, List.getElem?_map, hq]; rfl
    rw [List.getElem?_map] at h1
    cases hi : is[k]? with
    | none => rw [hi] at h1; cases h1
    | some i =>
      rw [hi] at h1
      have h2 : (ws[i]?).map Prod.fst = some q.1 := Option.some.inj h1
      cases hx : ws[i]? with
      | none => rw [hx] at h2; cases h2
      | some x => rw [hx] at h2; exact ⟨i, x, rfl, hx, Option.some.inj h2⟩
  refine ⟨fun i j p q hi hj e => ?_, fun k q hq => ?_⟩
  · obtain ⟨i', x, h1, h2, h3⟩ := at' i p hi
    obtain ⟨j', y, g1, g2, g3⟩ := at' j q hj
    have := hD.1 i' j' x y h2 g2 (by rw [h3, g3]; exact e)
    subst this
    exact va_nd_inj is hn i j i' h1 g1
  · obtain ⟨i, x, h1, h2, h3⟩ := at' k q hq
    rw [← h3]
    exact hD.2 i x h2
theorem bv_arrV {cA : ClassId} {n : Nat} {f g : Nat → Value} (h : ∀ j, j < n → f j = g j) : arrV cA n f = arrV cA n g := by
  unfold arrV
  congr 1
  apply Array.ext
  · simp
  · intro i h1 h2
    simp at h1
    simp [h i h1]
/-- a row of references, by what lies in it -/
theorem bv_row {D : va_G} {cl : List vw_C} {a n : Nat} {cA : ClassId} {f g : Nat → Option Nat} {H : Heap} (h : ∀ j, j < n → f j = g j) (hP : va_at D cl (a, .inl (cA, n, .inr (.inr (.inr (.inr f))))) H) : va_at D cl (a, .inl (cA, n, .inr (.inr (.inr (.inr g))))) H := by
  show H[a]? = some (vp_cell _ _)
  have hP : H[a]? = some (vp_cell _ _) := hP
  rw [hP, vp_cell_q, vp_cell_q, bv_arrV (fun j hj => by rw [h j hj])]
abbrev bv_Q : Type := Nat × Nat × Nat × Nat
def bv_rf (L : List bv_Q) : Nat → Option Nat := fun j => (L[j]?).map Prod.fst
def bv_Bs (t : Nat → ClassId) (L : List bv_Q) : va_W := L.flatMap (fun q => bv_B0 t q.1 q.2)
theorem bv_rf_0 : bv_rf [] = fun _ => none := rfl
theorem bv_rf_s (L : List bv_Q) (q : bv_Q) : bv_rf (L ++ [q]) = va_up (bv_rf L) L.length (some q.1) := by
  funext j
  unfold bv_rf va_up
  by_cases h : j = L.length
  · subst h
    rw [if_pos rfl, List.getElem?_concat_length]; rfl
  · rw [if_neg h]
    by_cases h2 : j < L.length
    · rw [List.getElem?_append_left h2]
    · show Option.map _ _ = Option.map Prod.fst L[j]?
      rw [List.getElem?_eq_none (by rw [List.length_append, List.length_singleton]; omega), List.getElem?_eq_none (l := L) (by omega)]
theorem bv_Bs_s (t : Nat → ClassId) (L : List bv_Q) (q : bv_Q) : bv_Bs t (L ++ [q]) = bv_Bs t L ++ bv_B0 t q.1 q.2 := by
  unfold bv_Bs
  rw [List.flatMap_append, List.flatMap_singleton]

def bv_V (t : Nat → ClassId) (h0 q0 q1 o1 o2 o3 o4 o5 q2 q3 q4 : Nat) (f : Nat → Option Nat) : va_W := [(h0, .inr (2, [.ref q0, .ref q1, .ref q2, .ref q3, .ref q4, .int 0])), (q0, .inl (t 2, 8, .inr (.inr (.inr (.inr f))))), (q1, .inr (1, [.int 0, .ref o1, .ref o2, .ref o3, .ref o4, .ref o5])), (o1, .inl (t 0, 30, .inl (fun _ => 0))), (o2, .inl (t 0, 30, .inl (fun _ => 0))), (o3, .inl (t 0, 30, .inl (fun _ => 0))), (o4, .inl (t 0, 30, .inl (fun _ => 0))), (o5, .inl (t 1, 30, .inl (fun _ => 0))), (q2, .inl (t 1, 16, .inl (fun _ => 0))), (q3, .inl (t 0, 16, .inl (fun _ => 0))), (q4, .inl (t 0, 16, .inl (fun _ => 0)))]
set_option maxHeartbeats 1000000 in
set_option maxRecDepth 100000 in
/-- the loop that makes the boxes -/
theorem bv_boxes {p : Program} {e : Env} {s : State} {m : MethodId} {args : Array Value} {below : List Frame} {meth : Method} {c : Code} {Q : State → Prop} {A : Nat → Prop} (l : Launch) (D : va_G) (t : Nat → ClassId) (h0 q0 q1 o1 o2 o3 o4 o5 q2 q3 q4 : Nat) (hx : p.tables.exec = Jvm.exec) (hb : c.code = cX2_init) (hml : c.maxLocals = 2) (hown : s.vm.findClass RX2 = some m.cls) (hts : ∀ w ∈ wsX2_init, w.before args s = true) (hNw : ∀ w ∈ bv_nw, va_Nw w s) (hK : va_K D vwCl (bv_tl t) s) (hA : ∀ q : Nat, s.heap.size ≤ q → A q)
    (kk : ∀ (L : List bv_Q) (H : Heap) (locs : List Loc) (ls : Array Slot), L.length = 8 → va_P D vwCl (bv_V t h0 q0 q1 o1 o2 o3 o4 o5 q2 q3 q4 (bv_rf L) ++ bv_Bs t L) H → va_D A (bv_V t h0 q0 q1 o1 o2 o3 o4 o5 q2 q3 q4 (bv_rf L) ++ bv_Bs t L) → va_S A s.heap H locs → W p l e ({ frames := 2, cells := 42, slots := 412, locals := 32 } : Room) s m args below meth c H locs 42 412 Q (F0 m 80 ls [])) :
    ∀ (n : Nat) (L : List bv_Q) (H : Heap) (locs : List Loc) (ls : Array Slot), L.length + n = 8 → va_P D vwCl (bv_V t h0 q0 q1 o1 o2 o3 o4 o5 q2 q3 q4 (bv_rf L) ++ bv_Bs t L) H → va_D A (bv_V t h0 q0 q1 o1 o2 o3 o4 o5 q2 q3 q4 (bv_rf L) ++ bv_Bs t L) → va_S A s.heap H locs → lv_has ls 2 [(1, .int (nI L.length)), (0, .ref h0)] → W p l e ({ frames := 2, cells := 42, slots := 412, locals := 32 } : Room) s m args below meth c H locs (10 + 4 * L.length) (212 + 25 * L.length) Q (F0 m 55 ls []) := by
  have hin0 : ∀ w ∈ wsX00, w ∈ wsX2_init := (fun w h => List.mem_cons_of_mem _ (List.mem_append_right _ h))
  have hin2 : ∀ w ∈ wsX20, w ∈ wsX2_init := (fun w h => List.mem_cons_of_mem _ (List.mem_append_left _ (List.mem_append_left _ (List.mem_append_right _ h))))
  intro n
  induction n with
  | zero =>
    intro L H locs ls hn hP hD hS hl
    refine lv_iload_n hx hb dX2_init_55 rfl (lv_at hl 0 rfl) ?_
    refine lv_bipush (v := 8) hx hb dX2_init_56 (by decide) ?_
    refine lv_icmp_ge (tgt := 80) hx hb dX2_init_58 (by decide) (fun c_1 => ?_) (fun c_1 => ?_)
    · refine W.widen (k := 42) (n := 412) (by omega) (by omega) ?_
      exact kk L H locs ls (by omega) hP hD hS
    · rw [show L.length = 8 by omega] at c_1
      exact absurd (by decide) c_1
  | succ n ih =>
    intro L H locs ls hn hP hD hS hl
    refine lv_iload_n hx hb dX2_init_55 rfl (lv_at hl 0 rfl) ?_
    refine lv_bipush (v := 8) hx hb dX2_init_56 (by decide) ?_
    refine lv_icmp_ge (tgt := 80) hx hb dX2_init_58 (by decide) (fun c_1 => ?_) (fun c_1 => ?_)
    · exact absurd (show nI 8 ≤ nI L.length from c_1) (nI_ge (by omega) (by decide))
    refine lv_aload_n hx hb dX2_init_61 rfl (lv_at hl 1 rfl) ?_
    refine va_get (D := D) (ci := 2) (v := .ref q0) (C := RX2) (T := TX2) (N := 6) hx hb hts hin2 hown hK hP 0 rfl rfl 0 (by decide) (hts (.fieldLink RX2 11 "BoxVault" "boxes" "[LBoxVault$Box;") (by decide +kernel)) (fun _ h9 => h9) rfl dX2_init_62 ?_
    refine lv_iload_n hx hb dX2_init_65 rfl (lv_at hl 0 rfl) ?_
    refine va_new (ci := 0) (fs := [.int 0, .int 0, .int 0, .int 0, .int 0, .int 0, .int 0, .null, .null, .null]) (C := RX0) (T := TX0) (N := 10) hx hb hts hin0 tyX0 tyX0_ok hown (hts (.classLink RX2 9 RX0) (by decide +kernel)) (hts (.instantiable RX0 10) (by decide +kernel)) (hts (.initialized RX0) (by decide +kernel)) hK hP hD hS hA rfl (fun j hj => by rcases (show j = 0 ∨ j = 1 ∨ j = 2 ∨ j = 3 ∨ j = 4 ∨ j = 5 ∨ j = 6 ∨ j = 7 ∨ j = 8 ∨ j = 9 by omega) with rfl | rfl | rfl | rfl | rfl | rfl | rfl | rfl | rfl | rfl <;> rfl) (show _ ≤ 42 by omega) (show _ ≤ 412 by omega) dX2_init_66 (fun b H hP hD hS => ?_)
    refine lv_dup hx hb dX2_init_69 rfl ?_
    have hPc := bv_lastP hP
    have hDc := bv_lastD hD
    have hFc := va_free hD hS hA _ bv_lastC
    refine va_callv (va_runIN (As := []) (rest := [.ref b, .int (nI L.length), .ref q0]) ⟨hx, hb, hml, hown, hts⟩ (c_X0_init l D t b H.size) ⟨va_cnB 0 hts gX2_init_X0_init_n37 rfl rfl rfl (hNw (.methodLinkNest RX2 37 yX0_init "BoxVault") (by decide +kernel)) (hts (.initialized RX0) (by decide +kernel)) ⟨by decide +kernel, by decide +kernel, rfl⟩ ⟨Nat.le_of_ble_eq_true rfl, Nat.le_of_ble_eq_true rfl⟩, rfl, hts (.instanceMethod yX0_init) (by decide +kernel)⟩ ⟨fun a U g mk q => by obtain ⟨q0, q1, qP, qK, qD⟩ := q; exact ⟨q0, q1, qP, va_K.moved (u := U) (U := U.calling g mk a) (Vm.Alike.refl U.vm) qK, qD⟩, fun U hU hW => ⟨rfl, by rw [hU], by rw [hU]; exact hPc, va_K.moved hW.alike hK, hDc.weaken (fun _ _ _ _ => trivial)⟩⟩ rfl rfl hl.1 rfl (lv_room (Nat.le_of_ble_eq_true rfl)) dX2_init_70 ⟨show _ ≤ 42 by omega, show _ ≤ 412 by omega⟩) hS (fun q _ h => hFc q h) hFc (fun u t9 H1 locs ht hvm hw hB hz1 hk1 hS => ?_)
    obtain ⟨hP1, hK1, hD1⟩ := hB
    rw [ht] at hP1
    obtain ⟨hP, hD⟩ := bv_join1 hP hD hk1 hFc hP1 hD1
    generalize H1 = H at hP hS ⊢
    refine va_astq hx hb hK hP hD hS 1 2 (bv_V t h0 q0 q1 o1 o2 o3 o4 o5 q2 q3 q4 (bv_rf L) ++ bv_Bs t L).length 0 (cA := t 2) (r := (RX0, TX0, 10)) (n := 8) rfl rfl (by rw [List.getElem?_append_right (Nat.le_refl _), Nat.sub_self]; rfl) rfl (vp_in_nI (show L.length < 8 by omega) (by decide)) dX2_init_73 (fun H locs hP hD hS => ?_)
    have he : (bv_V t h0 q0 q1 o1 o2 o3 o4 o5 q2 q3 q4 (bv_rf L) ++ bv_Bs t L ++ bv_B0 t b u).set 1 (q0, .inl (t 2, 8, .inr (.inr (.inr (.inr (va_up (bv_rf L) (nI L.length).toNatClampNeg (some b))))))) = bv_V t h0 q0 q1 o1 o2 o3 o4 o5 q2 q3 q4 (bv_rf (L ++ [(b, u)])) ++ bv_Bs t (L ++ [(b, u)]) := by
      rw [bv_rf_s, bv_Bs_s, nI_clamp (show L.length < 2 ^ 31 by omega), ← List.append_assoc]
      rfl
    rw [he] at hP hD
    refine lv_iinc (v := nI (L.length + 1)) (lv' := [(1, .int (nI (L.length + 1))), (0, .ref h0)]) hx hb dX2_init_74 hl (k := 0) rfl (nI_1 _) (by decide) rfl (fun ls hl => ?_)
    refine lv_goto (tgt := 55) hx hb dX2_init_77 (by decide) ?_
    have hlen : (L ++ [(b, u)]).length = L.length + 1 := by rw [List.length_append, List.length_singleton]
    refine W.widen (k := 10 + 4 * (L ++ [(b, u)]).length) (n := 212 + 25 * (L ++ [(b, u)]).length) (by omega) (by omega) ?_
    exact ih (L ++ [(b, u)]) H locs ls (by omega) hP hD hS (by rw [hlen]; exact hl)
def bv_S0 : bv_X := fun r _ => if r = 10 then -1 else 0
def bv_W2 (D : va_G) (t : Nat → ClassId) (a : Nat → Nat) : va_W := (List.range 43).map (fun k => (a k, bv_E ((D, a, t, 0) : bv_G) bv_S0 (fun _ _ => 0) (0, 0) k))
theorem bv_W2_get {D : va_G} {t : Nat → ClassId} {a : Nat → Nat} {k : Nat} (hk : k < 43) : (bv_W2 D t a)[k]? = some (a k, bv_E ((D, a, t, 0) : bv_G) bv_S0 (fun _ _ => 0) (0, 0) k) := by
  unfold bv_W2
  rw [List.getElem?_map, List.getElem?_range hk]
  rfl
set_option maxHeartbeats 1000000 in
set_option maxRecDepth 100000 in
theorem c_X2_init (l : Launch) (D : va_G) (t : Nat → ClassId) (h0 sz : Nat) : Met l yX2_init wsX2_init ({ frames := 2, cells := 42, slots := 412, locals := 32 }) (va_Pc [.ref h0] (fun U => U.heap.size = sz ∧ va_P D vwCl [(h0, .inr (2, [.null, .null, .null, .null, .null, .int 0]))] U.heap ∧ va_K D vwCl (bv_tl t) U ∧ va_D (fun _ => True) [(h0, .inr (2, [.null, .null, .null, .null, .null, .int 0]))] ∧ (∀ w ∈ bv_nw, va_Nw w U) ∧ va_AO "BoxVault$Box" U)) (va_Qv (fun a : Nat → Nat => a 0 = h0) (fun a t9 => va_P D vwCl (bv_W2 D t a) t9.heap ∧ va_K D vwCl (bv_tl t) t9 ∧ va_D (va_A [(h0, .inr (2, [.null, .null, .null, .null, .null, .int 0]))] sz) (bv_W2 D t a)) (va_A [(h0, .inr (2, [.null, .null, .null, .null, .null, .int 0]))] sz)) 42 412 (va_A [(h0, .inr (2, [.null, .null, .null, .null, .null, .int 0]))] sz) := by
  refine Met.ofW (cc := cX2_init) (maxL := 2) (ret := none) (by decide) rfl ?_
  intro p e s m args below meth c s₁ B hml hv
  obtain ⟨rfl, hsz, hP, hK, hD0, hNw, hAO⟩ := hv
  have hx := B.exec
  have hb := B.bytes
  have hr := B.returns
  have hts := atoms_spec (ws := wsX2_init) B.pre
  have hown : s.vm.findClass RX2 = some m.cls := findClass_of_methodNamed B.named
  have hlocks := B.notSynchronized
  have hin : meth.name = "<init>" := (name_of_methodNamed B.named B.method).1
  subst hsz
  have hD := hD0.self (sz := s.heap.size)
  generalize hAe : va_A [(h0, .inr (2, [.null, .null, .null, .null, .null, .int 0]))] s.heap.size = A at hD ⊢
  have hA : ∀ q : Nat, s.heap.size ≤ q → A q := fun q h => by rw [← hAe]; exact Or.inr h
  have hS : va_S A s.heap s.heap [] := va_S.rf
  have wl0 := hts (.classLink RX2 9 RX0) (by decide +kernel)
  have wl1 := hts (.fieldLink RX2 11 "BoxVault" "boxes" "[LBoxVault$Box;") (by decide +kernel)
  have wl2 := hts (.fieldLink RX2 18 "BoxVault" "orders" "LBoxVault$OrderBook;") (by decide +kernel)
  have wl3 := hts (.arrayClass .boolean) (by decide +kernel)
  have wl4 := hts (.fieldLink RX2 22 "BoxVault" "dead" "[Z") (by decide +kernel)
  have wl5 := hts (.arrayClass .int) (by decide +kernel)
  have wl6 := hts (.fieldLink RX2 26 "BoxVault" "heirs" "[I") (by decide +kernel)
  have wl7 := hts (.fieldLink RX2 30 "BoxVault" "refused" "[I") (by decide +kernel)
  have wl8 := hts (.fieldLink RX2 33 "BoxVault" "today" "I") (by decide +kernel)
  have hin2 : ∀ w ∈ wsX20, w ∈ wsX2_init := (fun w h => List.mem_cons_of_mem _ (List.mem_append_left _ (List.mem_append_left _ (List.mem_append_right _ h))))
  have hin1 : ∀ w ∈ wsX10, w ∈ wsX2_init := (fun w h => List.mem_cons_of_mem _ (List.mem_append_left _ (List.mem_append_right _ h)))
  have hin0 : ∀ w ∈ wsX00, w ∈ wsX2_init := (fun w h => List.mem_cons_of_mem _ (List.mem_append_right _ h))
  have hl := lv_entry ([.ref h0]) (n := 2) (Nat.le_of_ble_eq_true rfl)
  rw [lg_entry_eq]
  generalize (lg_sl ([.ref h0]) ++ List.replicate (2 - (lg_sl ([.ref h0])).length) Slot.unset).toArray = ls at hl ⊢
  have hl : lv_has ls 2 [(0, .ref h0)] := hl
  refine lv_aload_n hx hb dX2_init_0 rfl (lv_at hl 0 rfl) ?_
  refine W.objInit hx hb hown (hts (.methodLink RX2 1 objectInit) (by decide +kernel)) (hts (.instanceMethod objectInit) (by decide +kernel)) (hts (.code objectInit ⟨#[0xb1]⟩ 1 none) (by decide +kernel)) rfl (by rw [hml]; exact hl.1) rfl dX2_init_1 (Nat.le_of_ble_eq_true rfl) (Nat.le_of_ble_eq_true rfl) ?_
  refine W.eq (g2 := F0 m 4 ls []) rfl ?_
  refine lv_aload_n hx hb dX2_init_4 rfl (lv_at hl 0 rfl) ?_
  refine lv_bipush (v := 8) hx hb dX2_init_5 (by decide) ?_
  refine va_newq (C := RX0) (N' := 8) hx hb hown wl0 hAO hK hP hD hS hA (by decide) (by decide) (by decide +kernel) (Nat.le_of_ble_eq_true rfl) (Nat.le_of_ble_eq_true rfl) dX2_init_7 (fun q0 cA H hK9 hP hD hS => ?_)
  obtain rfl := bv_tyu (cB := t 2) hK9 2 rfl
  clear hK9
  have hP : va_P D vwCl [(h0, .inr (2, [.null, .null, .null, .null, .null, .int 0])), (q0, .inl (t 2, 8, .inr (.inr (.inr (.inr (fun _ => none))))))] H := hP
  have hD : va_D A [(h0, .inr (2, [.null, .null, .null, .null, .null, .int 0])), (q0, .inl (t 2, 8, .inr (.inr (.inr (.inr (fun _ => none))))))] := hD
  refine W.widen (k := 1) (n := 8) (Nat.le_of_ble_eq_true rfl) (Nat.le_of_ble_eq_true rfl) ?_
  refine va_putF (D := D) (ci := 2) (v := .ref q0) (ty := .array (.object "BoxVault$Box")) (C := RX2) (T := TX2) (N := 6) hx hb hts hin2 tyX2 tyX2_ok nmX2 hown hK hP hD hS 0 rfl rfl 0 (by decide) wl1 (fun _ h9 => h9) rfl hin rfl (by decide +kernel) rfl rfl (Nat.le_of_ble_eq_true rfl) dX2_init_10 (fun H locs hP hD hS => ?_)
  have hP : va_P D vwCl [(h0, .inr (2, [.ref q0, .null, .null, .null, .null, .int 0])), (q0, .inl (t 2, 8, .inr (.inr (.inr (.inr (fun _ => none))))))] H := hP
  have hD : va_D A [(h0, .inr (2, [.ref q0, .null, .null, .null, .null, .int 0])), (q0, .inl (t 2, 8, .inr (.inr (.inr (.inr (fun _ => none))))))] := hD
  refine lv_aload_n hx hb dX2_init_13 rfl (lv_at hl 0 rfl) ?_
  refine va_new (ci := 1) (fs := [.int 0, .null, .null, .null, .null, .null]) (C := RX1) (T := TX1) (N := 6) hx hb hts hin1 tyX1 tyX1_ok hown (hts (.classLink RX2 15 RX1) (by decide +kernel)) (hts (.instantiable RX1 6) (by decide +kernel)) (hts (.initialized RX1) (by decide +kernel)) hK hP hD hS hA rfl (fun j hj => by rcases (show j = 0 ∨ j = 1 ∨ j = 2 ∨ j = 3 ∨ j = 4 ∨ j = 5 by omega) with rfl | rfl | rfl | rfl | rfl | rfl <;> rfl) (Nat.le_of_ble_eq_true rfl) (Nat.le_of_ble_eq_true rfl) dX2_init_14 (fun q1 H hP hD hS => ?_)
  have hP : va_P D vwCl [(h0, .inr (2, [.ref q0, .null, .null, .null, .null, .int 0])), (q0, .inl (t 2, 8, .inr (.inr (.inr (.inr (fun _ => none)))))), (q1, .inr (1, [.int 0, .null, .null, .null, .null, .null]))] H := hP
  have hD : va_D A [(h0, .inr (2, [.ref q0, .null, .null, .null, .null, .int 0])), (q0, .inl (t 2, 8, .inr (.inr (.inr (.inr (fun _ => none)))))), (q1, .inr (1, [.int 0, .null, .null, .null, .null, .null]))] := hD
  refine W.widen (k := 2) (n := 14) (Nat.le_of_ble_eq_true rfl) (Nat.le_of_ble_eq_true rfl) ?_
  refine lv_dup hx hb dX2_init_17 rfl ?_
  have hPc : va_P D vwCl [(q1, .inr (1, [.int 0, .null, .null, .null, .null, .null]))] H := hP.sub [2] rfl
  have hDc : va_D A [(q1, .inr (1, [.int 0, .null, .null, .null, .null, .null]))] := hD.sub [2] (by decide) rfl
  have hFc := va_free (wc := [(q1, .inr (1, [.int 0, .null, .null, .null, .null, .null]))]) hD hS hA [2] rfl
  refine va_callv (va_runIN (As := []) (rest := [.ref q1, .ref h0]) ⟨hx, hb, hml, hown, hts⟩ (c_X1_init l D t q1 H.size) ⟨va_cnB 0 hts gX2_init_X1_init_n17 rfl rfl rfl (hNw (.methodLinkNest RX2 17 yX1_init "BoxVault") (by decide +kernel)) (hts (.initialized RX1) (by decide +kernel)) ⟨by decide +kernel, by decide +kernel, rfl⟩ ⟨Nat.le_of_ble_eq_true rfl, Nat.le_of_ble_eq_true rfl⟩, rfl, hts (.instanceMethod yX1_init) (by decide +kernel)⟩ ⟨fun a U g mk q => by obtain ⟨q0, q1, qP, qK, qD⟩ := q; exact ⟨q0, q1, qP, va_K.moved (u := U) (U := U.calling g mk a) (Vm.Alike.refl U.vm) qK, qD⟩, fun U hU hW => ⟨rfl, by rw [hU], by rw [hU]; exact hPc, va_K.moved hW.alike hK, hDc.weaken (fun _ _ _ _ => trivial)⟩⟩ rfl rfl hl.1 rfl (lv_room (Nat.le_of_ble_eq_true rfl)) dX2_init_18 ⟨Nat.le_of_ble_eq_true rfl, Nat.le_of_ble_eq_true rfl⟩) hS (fun q _ h => hFc q h) hFc (fun u9 t9 H1 locs ht hvm hw hB hz1 hk1 hS => ?_)
  obtain ⟨o1, o2, o3, o4, o5⟩ := u9
  obtain ⟨hP1, hK1, hD1⟩ := hB
  rw [ht] at hP1
  obtain ⟨hP, hD⟩ := va_join (wr := [(h0, .inr (2, [.ref q0, .null, .null, .null, .null, .int 0])), (q0, .inl (t 2, 8, .inr (.inr (.inr (.inr (fun _ => none))))))]) (w1 := bv_B1 t q1 (o1, o2, o3, o4, o5)) hP hD [2] [0, 1] rfl rfl (by decide) (by decide) hk1 hFc hP1 hD1
  generalize H1 = H at hP hS ⊢
  have hP : va_P D vwCl [(h0, .inr (2, [.ref q0, .null, .null, .null, .null, .int 0])), (q0, .inl (t 2, 8, .inr (.inr (.inr (.inr (fun _ => none)))))), (q1, .inr (1, [.int 0, .ref o1, .ref o2, .ref o3, .ref o4, .ref o5])), (o1, .inl (t 0, 30, .inl (fun _ => 0))), (o2, .inl (t 0, 30, .inl (fun _ => 0))), (o3, .inl (t 0, 30, .inl (fun _ => 0))), (o4, .inl (t 0, 30, .inl (fun _ => 0))), (o5, .inl (t 1, 30, .inl (fun _ => 0)))] H := hP
  have hD : va_D A [(h0, .inr (2, [.ref q0, .null, .null, .null, .null, .int 0])), (q0, .inl (t 2, 8, .inr (.inr (.inr (.inr (fun _ => none)))))), (q1, .inr (1, [.int 0, .ref o1, .ref o2, .ref o3, .ref o4, .ref o5])), (o1, .inl (t 0, 30, .inl (fun _ => 0))), (o2, .inl (t 0, 30, .inl (fun _ => 0))), (o3, .inl (t 0, 30, .inl (fun _ => 0))), (o4, .inl (t 0, 30, .inl (fun _ => 0))), (o5, .inl (t 1, 30, .inl (fun _ => 0)))] := hD
  refine W.widen (k := 7) (n := 164) (Nat.le_of_ble_eq_true rfl) (Nat.le_of_ble_eq_true rfl) ?_
  refine va_putF (D := D) (ci := 2) (v := .ref q1) (ty := .object "BoxVault$OrderBook") (C := RX2) (T := TX2) (N := 6) hx hb hts hin2 tyX2 tyX2_ok nmX2 hown hK hP hD hS 0 rfl rfl 1 (by decide) wl2 (fun _ h9 => h9) rfl hin rfl (by decide +kernel) rfl rfl (Nat.le_of_ble_eq_true rfl) dX2_init_21 (fun H locs hP hD hS => ?_)
  have hP : va_P D vwCl [(h0, .inr (2, [.ref q0, .ref q1, .null, .null, .null, .int 0])), (q0, .inl (t 2, 8, .inr (.inr (.inr (.inr (fun _ => none)))))), (q1, .inr (1, [.int 0, .ref o1, .ref o2, .ref o3, .ref o4, .ref o5])), (o1, .inl (t 0, 30, .inl (fun _ => 0))), (o2, .inl (t 0, 30, .inl (fun _ => 0))), (o3, .inl (t 0, 30, .inl (fun _ => 0))), (o4, .inl (t 0, 30, .inl (fun _ => 0))), (o5, .inl (t 1, 30, .inl (fun _ => 0)))] H := hP
  have hD : va_D A [(h0, .inr (2, [.ref q0, .ref q1, .null, .null, .null, .int 0])), (q0, .inl (t 2, 8, .inr (.inr (.inr (.inr (fun _ => none)))))), (q1, .inr (1, [.int 0, .ref o1, .ref o2, .ref o3, .ref o4, .ref o5])), (o1, .inl (t 0, 30, .inl (fun _ => 0))), (o2, .inl (t 0, 30, .inl (fun _ => 0))), (o3, .inl (t 0, 30, .inl (fun _ => 0))), (o4, .inl (t 0, 30, .inl (fun _ => 0))), (o5, .inl (t 1, 30, .inl (fun _ => 0)))] := hD
  refine lv_aload_n hx hb dX2_init_24 rfl (lv_at hl 0 rfl) ?_
  refine lv_bipush (v := 16) hx hb dX2_init_25 (by decide) ?_
  refine va_newa (atype := .boolean) (ty := .boolean) (N' := 16) (a0 := (16, .inl (fun _ => 0))) hx hb wl3 rfl hK hP hD hS hA (fun _ => rfl) (by decide) (by decide) (by decide +kernel) (Nat.le_of_ble_eq_true rfl) (Nat.le_of_ble_eq_true rfl) dX2_init_27 (fun q2 cA H hK9 hP hD hS => ?_)
  obtain rfl := bv_tyu hK9 1 rfl
  clear hK9
  have hP : va_P D vwCl [(h0, .inr (2, [.ref q0, .ref q1, .null, .null, .null, .int 0])), (q0, .inl (t 2, 8, .inr (.inr (.inr (.inr (fun _ => none)))))), (q1, .inr (1, [.int 0, .ref o1, .ref o2, .ref o3, .ref o4, .ref o5])), (o1, .inl (t 0, 30, .inl (fun _ => 0))), (o2, .inl (t 0, 30, .inl (fun _ => 0))), (o3, .inl (t 0, 30, .inl (fun _ => 0))), (o4, .inl (t 0, 30, .inl (fun _ => 0))), (o5, .inl (t 1, 30, .inl (fun _ => 0))), (q2, .inl (t 1, 16, .inl (fun _ => 0)))] H := hP
  have hD : va_D A [(h0, .inr (2, [.ref q0, .ref q1, .null, .null, .null, .int 0])), (q0, .inl (t 2, 8, .inr (.inr (.inr (.inr (fun _ => none)))))), (q1, .inr (1, [.int 0, .ref o1, .ref o2, .ref o3, .ref o4, .ref o5])), (o1, .inl (t 0, 30, .inl (fun _ => 0))), (o2, .inl (t 0, 30, .inl (fun _ => 0))), (o3, .inl (t 0, 30, .inl (fun _ => 0))), (o4, .inl (t 0, 30, .inl (fun _ => 0))), (o5, .inl (t 1, 30, .inl (fun _ => 0))), (q2, .inl (t 1, 16, .inl (fun _ => 0)))] := hD
  refine W.widen (k := 8) (n := 180) (Nat.le_of_ble_eq_true rfl) (Nat.le_of_ble_eq_true rfl) ?_
  refine va_putF (D := D) (ci := 2) (v := .ref q2) (ty := .array .boolean) (C := RX2) (T := TX2) (N := 6) hx hb hts hin2 tyX2 tyX2_ok nmX2 hown hK hP hD hS 0 rfl rfl 2 (by decide) wl4 (fun _ h9 => h9) rfl hin rfl (by decide +kernel) rfl rfl (Nat.le_of_ble_eq_true rfl) dX2_init_29 (fun H locs hP hD hS => ?_)
  have hP : va_P D vwCl [(h0, .inr (2, [.ref q0, .ref q1, .ref q2, .null, .null, .int 0])), (q0, .inl (t 2, 8, .inr (.inr (.inr (.inr (fun _ => none)))))), (q1, .inr (1, [.int 0, .ref o1, .ref o2, .ref o3, .ref o4, .ref o5])), (o1, .inl (t 0, 30, .inl (fun _ => 0))), (o2, .inl (t 0, 30, .inl (fun _ => 0))), (o3, .inl (t 0, 30, .inl (fun _ => 0))), (o4, .inl (t 0, 30, .inl (fun _ => 0))), (o5, .inl (t 1, 30, .inl (fun _ => 0))), (q2, .inl (t 1, 16, .inl (fun _ => 0)))] H := hP
  have hD : va_D A [(h0, .inr (2, [.ref q0, .ref q1, .ref q2, .null, .null, .int 0])), (q0, .inl (t 2, 8, .inr (.inr (.inr (.inr (fun _ => none)))))), (q1, .inr (1, [.int 0, .ref o1, .ref o2, .ref o3, .ref o4, .ref o5])), (o1, .inl (t 0, 30, .inl (fun _ => 0))), (o2, .inl (t 0, 30, .inl (fun _ => 0))), (o3, .inl (t 0, 30, .inl (fun _ => 0))), (o4, .inl (t 0, 30, .inl (fun _ => 0))), (o5, .inl (t 1, 30, .inl (fun _ => 0))), (q2, .inl (t 1, 16, .inl (fun _ => 0)))] := hD
  refine lv_aload_n hx hb dX2_init_32 rfl (lv_at hl 0 rfl) ?_
  refine lv_bipush (v := 16) hx hb dX2_init_33 (by decide) ?_
  refine va_newa (atype := .int) (ty := .int) (N' := 16) (a0 := (16, .inl (fun _ => 0))) hx hb wl5 rfl hK hP hD hS hA (fun _ => rfl) (by decide) (by decide) (by decide +kernel) (Nat.le_of_ble_eq_true rfl) (Nat.le_of_ble_eq_true rfl) dX2_init_35 (fun q3 cA H hK9 hP hD hS => ?_)
  obtain rfl := bv_tyu hK9 0 rfl
  clear hK9
  have hP : va_P D vwCl [(h0, .inr (2, [.ref q0, .ref q1, .ref q2, .null, .null, .int 0])), (q0, .inl (t 2, 8, .inr (.inr (.inr (.inr (fun _ => none)))))), (q1, .inr (1, [.int 0, .ref o1, .ref o2, .ref o3, .ref o4, .ref o5])), (o1, .inl (t 0, 30, .inl (fun _ => 0))), (o2, .inl (t 0, 30, .inl (fun _ => 0))), (o3, .inl (t 0, 30, .inl (fun _ => 0))), (o4, .inl (t 0, 30, .inl (fun _ => 0))), (o5, .inl (t 1, 30, .inl (fun _ => 0))), (q2, .inl (t 1, 16, .inl (fun _ => 0))), (q3, .inl (t 0, 16, .inl (fun _ => 0)))] H := hP
  have hD : va_D A [(h0, .inr (2, [.ref q0, .ref q1, .ref q2, .null, .null, .int 0])), (q0, .inl (t 2, 8, .inr (.inr (.inr (.inr (fun _ => none)))))), (q1, .inr (1, [.int 0, .ref o1, .ref o2, .ref o3, .ref o4, .ref o5])), (o1, .inl (t 0, 30, .inl (fun _ => 0))), (o2, .inl (t 0, 30, .inl (fun _ => 0))), (o3, .inl (t 0, 30, .inl (fun _ => 0))), (o4, .inl (t 0, 30, .inl (fun _ => 0))), (o5, .inl (t 1, 30, .inl (fun _ => 0))), (q2, .inl (t 1, 16, .inl (fun _ => 0))), (q3, .inl (t 0, 16, .inl (fun _ => 0)))] := hD
  refine W.widen (k := 9) (n := 196) (Nat.le_of_ble_eq_true rfl) (Nat.le_of_ble_eq_true rfl) ?_
  refine va_putF (D := D) (ci := 2) (v := .ref q3) (ty := .array .int) (C := RX2) (T := TX2) (N := 6) hx hb hts hin2 tyX2 tyX2_ok nmX2 hown hK hP hD hS 0 rfl rfl 3 (by decide) wl6 (fun _ h9 => h9) rfl hin rfl (by decide +kernel) rfl rfl (Nat.le_of_ble_eq_true rfl) dX2_init_37 (fun H locs hP hD hS => ?_)
  have hP : va_P D vwCl [(h0, .inr (2, [.ref q0, .ref q1, .ref q2, .ref q3, .null, .int 0])), (q0, .inl (t 2, 8, .inr (.inr (.inr (.inr (fun _ => none)))))), (q1, .inr (1, [.int 0, .ref o1, .ref o2, .ref o3, .ref o4, .ref o5])), (o1, .inl (t 0, 30, .inl (fun _ => 0))), (o2, .inl (t 0, 30, .inl (fun _ => 0))), (o3, .inl (t 0, 30, .inl (fun _ => 0))), (o4, .inl (t 0, 30, .inl (fun _ => 0))), (o5, .inl (t 1, 30, .inl (fun _ => 0))), (q2, .inl (t 1, 16, .inl (fun _ => 0))), (q3, .inl (t 0, 16, .inl (fun _ => 0)))] H := hP
  have hD : va_D A [(h0, .inr (2, [.ref q0, .ref q1, .ref q2, .ref q3, .null, .int 0])), (q0, .inl (t 2, 8, .inr (.inr (.inr (.inr (fun _ => none)))))), (q1, .inr (1, [.int 0, .ref o1, .ref o2, .ref o3, .ref o4, .ref o5])), (o1, .inl (t 0, 30, .inl (fun _ => 0))), (o2, .inl (t 0, 30, .inl (fun _ => 0))), (o3, .inl (t 0, 30, .inl (fun _ => 0))), (o4, .inl (t 0, 30, .inl (fun _ => 0))), (o5, .inl (t 1, 30, .inl (fun _ => 0))), (q2, .inl (t 1, 16, .inl (fun _ => 0))), (q3, .inl (t 0, 16, .inl (fun _ => 0)))] := hD
  refine lv_aload_n hx hb dX2_init_40 rfl (lv_at hl 0 rfl) ?_
  refine lv_bipush (v := 16) hx hb dX2_init_41 (by decide) ?_
  refine va_newa (atype := .int) (ty := .int) (N' := 16) (a0 := (16, .inl (fun _ => 0))) hx hb wl5 rfl hK hP hD hS hA (fun _ => rfl) (by decide) (by decide) (by decide +kernel) (Nat.le_of_ble_eq_true rfl) (Nat.le_of_ble_eq_true rfl) dX2_init_43 (fun q4 cA H hK9 hP hD hS => ?_)
  obtain rfl := bv_tyu hK9 0 rfl
  clear hK9
  have hP : va_P D vwCl [(h0, .inr (2, [.ref q0, .ref q1, .ref q2, .ref q3, .null, .int 0])), (q0, .inl (t 2, 8, .inr (.inr (.inr (.inr (fun _ => none)))))), (q1, .inr (1, [.int 0, .ref o1, .ref o2, .ref o3, .ref o4, .ref o5])), (o1, .inl (t 0, 30, .inl (fun _ => 0))), (o2, .inl (t 0, 30, .inl (fun _ => 0))), (o3, .inl (t 0, 30, .inl (fun _ => 0))), (o4, .inl (t 0, 30, .inl (fun _ => 0))), (o5, .inl (t 1, 30, .inl (fun _ => 0))), (q2, .inl (t 1, 16, .inl (fun _ => 0))), (q3, .inl (t 0, 16, .inl (fun _ => 0))), (q4, .inl (t 0, 16, .inl (fun _ => 0)))] H := hP
  have hD : va_D A [(h0, .inr (2, [.ref q0, .ref q1, .ref q2, .ref q3, .null, .int 0])), (q0, .inl (t 2, 8, .inr (.inr (.inr (.inr (fun _ => none)))))), (q1, .inr (1, [.int 0, .ref o1, .ref o2, .ref o3, .ref o4, .ref o5])), (o1, .inl (t 0, 30, .inl (fun _ => 0))), (o2, .inl (t 0, 30, .inl (fun _ => 0))), (o3, .inl (t 0, 30, .inl (fun _ => 0))), (o4, .inl (t 0, 30, .inl (fun _ => 0))), (o5, .inl (t 1, 30, .inl (fun _ => 0))), (q2, .inl (t 1, 16, .inl (fun _ => 0))), (q3, .inl (t 0, 16, .inl (fun _ => 0))), (q4, .inl (t 0, 16, .inl (fun _ => 0)))] := hD
  refine W.widen (k := 10) (n := 212) (Nat.le_of_ble_eq_true rfl) (Nat.le_of_ble_eq_true rfl) ?_
  refine va_putF (D := D) (ci := 2) (v := .ref q4) (ty := .array .int) (C := RX2) (T := TX2) (N := 6) hx hb hts hin2 tyX2 tyX2_ok nmX2 hown hK hP hD hS 0 rfl rfl 4 (by decide) wl7 (fun _ h9 => h9) rfl hin rfl (by decide +kernel) rfl rfl (Nat.le_of_ble_eq_true rfl) dX2_init_45 (fun H locs hP hD hS => ?_)
  have hP : va_P D vwCl [(h0, .inr (2, [.ref q0, .ref q1, .ref q2, .ref q3, .ref q4, .int 0])), (q0, .inl (t 2, 8, .inr (.inr (.inr (.inr (fun _ => none)))))), (q1, .inr (1, [.int 0, .ref o1, .ref o2, .ref o3, .ref o4, .ref o5])), (o1, .inl (t 0, 30, .inl (fun _ => 0))), (o2, .inl (t 0, 30, .inl (fun _ => 0))), (o3, .inl (t 0, 30, .inl (fun _ => 0))), (o4, .inl (t 0, 30, .inl (fun _ => 0))), (o5, .inl (t 1, 30, .inl (fun _ => 0))), (q2, .inl (t 1, 16, .inl (fun _ => 0))), (q3, .inl (t 0, 16, .inl (fun _ => 0))), (q4, .inl (t 0, 16, .inl (fun _ => 0)))] H := hP
  have hD : va_D A [(h0, .inr (2, [.ref q0, .ref q1, .ref q2, .ref q3, .ref q4, .int 0])), (q0, .inl (t 2, 8, .inr (.inr (.inr (.inr (fun _ => none)))))), (q1, .inr (1, [.int 0, .ref o1, .ref o2, .ref o3, .ref o4, .ref o5])), (o1, .inl (t 0, 30, .inl (fun _ => 0))), (o2, .inl (t 0, 30, .inl (fun _ => 0))), (o3, .inl (t 0, 30, .inl (fun _ => 0))), (o4, .inl (t 0, 30, .inl (fun _ => 0))), (o5, .inl (t 1, 30, .inl (fun _ => 0))), (q2, .inl (t 1, 16, .inl (fun _ => 0))), (q3, .inl (t 0, 16, .inl (fun _ => 0))), (q4, .inl (t 0, 16, .inl (fun _ => 0)))] := hD
  refine lv_aload_n hx hb dX2_init_48 rfl (lv_at hl 0 rfl) ?_
  refine lv_iconst (v := 0) hx hb dX2_init_49 (by decide) ?_
  refine va_put (D := D) (ci := 2) (v := .int 0) (ty := .int) (C := RX2) (T := TX2) (N := 6) hx hb hts hin2 tyX2 tyX2_ok nmX2 hown hK hP hD hS 0 rfl rfl 5 (by decide) wl8 (fun _ h9 => h9) rfl (by decide +kernel) rfl rfl (Nat.le_of_ble_eq_true rfl) dX2_init_50 (fun H locs hP hD hS => ?_)
  have hP : va_P D vwCl [(h0, .inr (2, [.ref q0, .ref q1, .ref q2, .ref q3, .ref q4, .int 0])), (q0, .inl (t 2, 8, .inr (.inr (.inr (.inr (fun _ => none)))))), (q1, .inr (1, [.int 0, .ref o1, .ref o2, .ref o3, .ref o4, .ref o5])), (o1, .inl (t 0, 30, .inl (fun _ => 0))), (o2, .inl (t 0, 30, .inl (fun _ => 0))), (o3, .inl (t 0, 30, .inl (fun _ => 0))), (o4, .inl (t 0, 30, .inl (fun _ => 0))), (o5, .inl (t 1, 30, .inl (fun _ => 0))), (q2, .inl (t 1, 16, .inl (fun _ => 0))), (q3, .inl (t 0, 16, .inl (fun _ => 0))), (q4, .inl (t 0, 16, .inl (fun _ => 0)))] H := hP
  have hD : va_D A [(h0, .inr (2, [.ref q0, .ref q1, .ref q2, .ref q3, .ref q4, .int 0])), (q0, .inl (t 2, 8, .inr (.inr (.inr (.inr (fun _ => none)))))), (q1, .inr (1, [.int 0, .ref o1, .ref o2, .ref o3, .ref o4, .ref o5])), (o1, .inl (t 0, 30, .inl (fun _ => 0))), (o2, .inl (t 0, 30, .inl (fun _ => 0))), (o3, .inl (t 0, 30, .inl (fun _ => 0))), (o4, .inl (t 0, 30, .inl (fun _ => 0))), (o5, .inl (t 1, 30, .inl (fun _ => 0))), (q2, .inl (t 1, 16, .inl (fun _ => 0))), (q3, .inl (t 0, 16, .inl (fun _ => 0))), (q4, .inl (t 0, 16, .inl (fun _ => 0)))] := hD
  refine lv_iconst (v := 0) hx hb dX2_init_53 (by decide) ?_
  refine lv_istore_n (lv' := [(1, .int 0), (0, .ref h0)]) hx hb dX2_init_54 rfl hl (by decide) rfl (fun ls hl => ?_)
  refine bv_boxes l D t h0 q0 q1 o1 o2 o3 o4 o5 q2 q3 q4 hx hb hml hown hts hNw hK hA (fun L H locs ls h8 hP hD hS => ?_) 8 [] H locs ls rfl hP hD hS hl
  match L, h8 with
  | [p0, p1, p2, p3, p4, p5, p6, p7], _ =>
    have hW : va_P D vwCl (bv_W2 D t (fun k => ([h0, q0, q1, q2, q3, q4, o1, o2, o3, o4, o5, p0.1, p1.1, p2.1, p3.1, p4.1, p5.1, p6.1, p7.1, p0.2.1, p1.2.1, p2.2.1, p3.2.1, p4.2.1, p5.2.1, p6.2.1, p7.2.1, p0.2.2.1, p1.2.2.1, p2.2.2.1, p3.2.2.1, p4.2.2.1, p5.2.2.1, p6.2.2.1, p7.2.2.1, p0.2.2.2, p1.2.2.2, p2.2.2.2, p3.2.2.2, p4.2.2.2, p5.2.2.2, p6.2.2.2, p7.2.2.2] : List Nat).getD k 0)) H := by
      intro k q hq
      have hk : k < 43 := by
        have := (List.getElem?_eq_some_iff.mp hq).1
        simpa [bv_W2] using this
      rw [bv_W2_get hk] at hq
      cases hq
      match k, hk with
      | 0, _ => exact hP 0 _ rfl
      | 1, _ => exact bv_row (f := bv_rf [p0, p1, p2, p3, p4, p5, p6, p7]) (fun j hj => by rcases (show j = 0 ∨ j = 1 ∨ j = 2 ∨ j = 3 ∨ j = 4 ∨ j = 5 ∨ j = 6 ∨ j = 7 by omega) with rfl | rfl | rfl | rfl | rfl | rfl | rfl | rfl <;> rfl) (hP 1 _ rfl)
      | 2, _ => exact hP 2 _ rfl
      | 3, _ => exact hP 8 _ rfl
      | 4, _ => exact hP 9 _ rfl
      | 5, _ => exact hP 10 _ rfl
      | 6, _ => exact hP 3 _ rfl
      | 7, _ => exact hP 4 _ rfl
      | 8, _ => exact hP 5 _ rfl
      | 9, _ => exact hP 6 _ rfl
      | 10, _ => exact hP 7 _ rfl
      | 11, _ => exact hP 11 _ rfl
      | 12, _ => exact hP 15 _ rfl
      | 13, _ => exact hP 19 _ rfl
      | 14, _ => exact hP 23 _ rfl
      | 15, _ => exact hP 27 _ rfl
      | 16, _ => exact hP 31 _ rfl
      | 17, _ => exact hP 35 _ rfl
      | 18, _ => exact hP 39 _ rfl
      | 19, _ => exact hP 12 _ rfl
      | 20, _ => exact hP 16 _ rfl
      | 21, _ => exact hP 20 _ rfl
      | 22, _ => exact hP 24 _ rfl
      | 23, _ => exact hP 28 _ rfl
      | 24, _ => exact hP 32 _ rfl
      | 25, _ => exact hP 36 _ rfl
      | 26, _ => exact hP 40 _ rfl
      | 27, _ => exact hP 13 _ rfl
      | 28, _ => exact hP 17 _ rfl
      | 29, _ => exact hP 21 _ rfl
      | 30, _ => exact hP 25 _ rfl
      | 31, _ => exact hP 29 _ rfl
      | 32, _ => exact hP 33 _ rfl
      | 33, _ => exact hP 37 _ rfl
      | 34, _ => exact hP 41 _ rfl
      | 35, _ => exact hP 14 _ rfl
      | 36, _ => exact hP 18 _ rfl
      | 37, _ => exact hP 22 _ rfl
      | 38, _ => exact hP 26 _ rfl
      | 39, _ => exact hP 30 _ rfl
      | 40, _ => exact hP 34 _ rfl
      | 41, _ => exact hP 38 _ rfl
      | 42, _ => exact hP 42 _ rfl
      | k + 43, hk => exact absurd hk (by omega)
    have hV : va_D A (bv_W2 D t (fun k => ([h0, q0, q1, q2, q3, q4, o1, o2, o3, o4, o5, p0.1, p1.1, p2.1, p3.1, p4.1, p5.1, p6.1, p7.1, p0.2.1, p1.2.1, p2.2.1, p3.2.1, p4.2.1, p5.2.1, p6.2.1, p7.2.1, p0.2.2.1, p1.2.2.1, p2.2.2.1, p3.2.2.1, p4.2.2.1, p5.2.2.1, p6.2.2.1, p7.2.2.1, p0.2.2.2, p1.2.2.2, p2.2.2.2, p3.2.2.2, p4.2.2.2, p5.2.2.2, p6.2.2.2, p7.2.2.2] : List Nat).getD k 0)) := bv_D_of hD [0, 1, 2, 8, 9, 10, 3, 4, 5, 6, 7, 11, 15, 19, 23, 27, 31, 35, 39, 12, 16, 20, 24, 28, 32, 36, 40, 13, 17, 21, 25, 29, 33, 37, 41, 14, 18, 22, 26, 30, 34, 38, 42] (by decide) rfl
    exact W.vret hx hb hr (fun t9 ht hW9 => ⟨⟨(fun k => ([h0, q0, q1, q2, q3, q4, o1, o2, o3, o4, o5, p0.1, p1.1, p2.1, p3.1, p4.1, p5.1, p6.1, p7.1, p0.2.1, p1.2.1, p2.2.1, p3.2.1, p4.2.1, p5.2.1, p6.2.1, p7.2.1, p0.2.2.1, p1.2.2.1, p2.2.2.1, p3.2.2.1, p4.2.2.1, p5.2.2.1, p6.2.2.1, p7.2.2.1, p0.2.2.2, p1.2.2.2, p2.2.2.2, p3.2.2.2, p4.2.2.2, p5.2.2.2, p6.2.2.2, p7.2.2.2] : List Nat).getD k 0), rfl, rfl, by rw [ht]; exact hW, va_K.moved hW9.alike hK, hV⟩, hS.F ht⟩) hS.2.2 dX2_init_80
