section
-- ===== PART A: goes FIRST, ahead of the names: the tables' words, and 'selects' of the private methods out of them =====
/-- a private method of a class that the tables say can be made, by its rows of tables_1 -/
def lw_okq (q : MethodName × Nat) : Prop := (q.1.cls ≠ "java/lang/invoke/MethodHandle" ∧ q.1.cls ≠ "java/lang/invoke/VarHandle") ∧ Cond.instantiable q.1.cls q.2 ∈ tables_1 ∧ Cond.privateMethod q.1 ∈ tables_1 ∧ Cond.instanceMethod q.1 ∈ tables_1
theorem lw_p0 : lw_okq (⟨"java/lang/Throwable", "fillInStackTrace", "(I)Ljava/lang/Throwable;"⟩, 6) := ⟨⟨by decide +kernel, by decide +kernel⟩, List.mem_of_getElem? (i := 162) (by decide +kernel), List.mem_of_getElem? (i := 160) (by decide +kernel), List.mem_of_getElem? (i := 161) (by decide +kernel)⟩
theorem lw_p1 : lw_okq (⟨"BoxVault", "boxAt", "(I)LBoxVault$Box;"⟩, 6) := ⟨⟨by decide +kernel, by decide +kernel⟩, List.mem_of_getElem? (i := 13) (by decide +kernel), List.mem_of_getElem? (i := 216) (by decide +kernel), List.mem_of_getElem? (i := 217) (by decide +kernel)⟩
theorem lw_p2 : lw_okq (⟨"BoxVault$Box", "isFree", "()Z"⟩, 10) := ⟨⟨by decide +kernel, by decide +kernel⟩, List.mem_of_getElem? (i := 49) (by decide +kernel), List.mem_of_getElem? (i := 223) (by decide +kernel), List.mem_of_getElem? (i := 224) (by decide +kernel)⟩
theorem lw_p3 : lw_okq (⟨"BoxVault", "isAlive", "(I)Z"⟩, 6) := ⟨⟨by decide +kernel, by decide +kernel⟩, List.mem_of_getElem? (i := 13) (by decide +kernel), List.mem_of_getElem? (i := 228) (by decide +kernel), List.mem_of_getElem? (i := 229) (by decide +kernel)⟩
theorem lw_p4 : lw_okq (⟨"BoxVault$Box", "startRent", "(II)V"⟩, 10) := ⟨⟨by decide +kernel, by decide +kernel⟩, List.mem_of_getElem? (i := 49) (by decide +kernel), List.mem_of_getElem? (i := 236) (by decide +kernel), List.mem_of_getElem? (i := 237) (by decide +kernel)⟩
theorem lw_p5 : lw_okq (⟨"BoxVault$Box", "isRented", "()Z"⟩, 10) := ⟨⟨by decide +kernel, by decide +kernel⟩, List.mem_of_getElem? (i := 49) (by decide +kernel), List.mem_of_getElem? (i := 250) (by decide +kernel), List.mem_of_getElem? (i := 251) (by decide +kernel)⟩
theorem lw_p6 : lw_okq (⟨"BoxVault", "rightOf", "(ILBoxVault$Box;I)I"⟩, 6) := ⟨⟨by decide +kernel, by decide +kernel⟩, List.mem_of_getElem? (i := 13) (by decide +kernel), List.mem_of_getElem? (i := 262) (by decide +kernel), List.mem_of_getElem? (i := 263) (by decide +kernel)⟩
theorem lw_p7 : lw_okq (⟨"BoxVault$OrderBook", "bindingOn", "(I)I"⟩, 6) := ⟨⟨by decide +kernel, by decide +kernel⟩, List.mem_of_getElem? (i := 23) (by decide +kernel), List.mem_of_getElem? (i := 266) (by decide +kernel), List.mem_of_getElem? (i := 267) (by decide +kernel)⟩
theorem lw_p8 : lw_okq (⟨"BoxVault", "orderAllows", "(ILBoxVault$Box;I)Z"⟩, 6) := ⟨⟨by decide +kernel, by decide +kernel⟩, List.mem_of_getElem? (i := 13) (by decide +kernel), List.mem_of_getElem? (i := 270) (by decide +kernel), List.mem_of_getElem? (i := 271) (by decide +kernel)⟩
theorem lw_p9 : lw_okq (⟨"BoxVault$OrderBook", "kindOf", "(I)I"⟩, 6) := ⟨⟨by decide +kernel, by decide +kernel⟩, List.mem_of_getElem? (i := 23) (by decide +kernel), List.mem_of_getElem? (i := 274) (by decide +kernel), List.mem_of_getElem? (i := 275) (by decide +kernel)⟩
theorem lw_p10 : lw_okq (⟨"BoxVault$OrderBook", "has", "(I)Z"⟩, 6) := ⟨⟨by decide +kernel, by decide +kernel⟩, List.mem_of_getElem? (i := 23) (by decide +kernel), List.mem_of_getElem? (i := 278) (by decide +kernel), List.mem_of_getElem? (i := 279) (by decide +kernel)⟩
theorem lw_p11 : lw_okq (⟨"BoxVault$OrderBook", "personOf", "(I)I"⟩, 6) := ⟨⟨by decide +kernel, by decide +kernel⟩, List.mem_of_getElem? (i := 23) (by decide +kernel), List.mem_of_getElem? (i := 282) (by decide +kernel), List.mem_of_getElem? (i := 283) (by decide +kernel)⟩
theorem lw_p12 : lw_okq (⟨"BoxVault", "isHeirOfDead", "(II)Z"⟩, 6) := ⟨⟨by decide +kernel, by decide +kernel⟩, List.mem_of_getElem? (i := 13) (by decide +kernel), List.mem_of_getElem? (i := 286) (by decide +kernel), List.mem_of_getElem? (i := 287) (by decide +kernel)⟩
theorem lw_p13 : lw_okq (⟨"BoxVault", "isHeir", "(II)Z"⟩, 6) := ⟨⟨by decide +kernel, by decide +kernel⟩, List.mem_of_getElem? (i := 13) (by decide +kernel), List.mem_of_getElem? (i := 290) (by decide +kernel), List.mem_of_getElem? (i := 291) (by decide +kernel)⟩
theorem lw_p14 : lw_okq (⟨"BoxVault", "holderAllows", "(LBoxVault$Box;I)Z"⟩, 6) := ⟨⟨by decide +kernel, by decide +kernel⟩, List.mem_of_getElem? (i := 13) (by decide +kernel), List.mem_of_getElem? (i := 294) (by decide +kernel), List.mem_of_getElem? (i := 295) (by decide +kernel)⟩
theorem lw_p15 : lw_okq (⟨"BoxVault$Box", "noticesOn", "(I)I"⟩, 10) := ⟨⟨by decide +kernel, by decide +kernel⟩, List.mem_of_getElem? (i := 49) (by decide +kernel), List.mem_of_getElem? (i := 298) (by decide +kernel), List.mem_of_getElem? (i := 299) (by decide +kernel)⟩
def lw_privs_1 : List (MethodName × Nat) := [(⟨"java/lang/Throwable", "fillInStackTrace", "(I)Ljava/lang/Throwable;"⟩, 6), (⟨"BoxVault", "boxAt", "(I)LBoxVault$Box;"⟩, 6), (⟨"BoxVault$Box", "isFree", "()Z"⟩, 10), (⟨"BoxVault", "isAlive", "(I)Z"⟩, 6), (⟨"BoxVault$Box", "startRent", "(II)V"⟩, 10), (⟨"BoxVault$Box", "isRented", "()Z"⟩, 10), (⟨"BoxVault", "rightOf", "(ILBoxVault$Box;I)I"⟩, 6), (⟨"BoxVault$OrderBook", "bindingOn", "(I)I"⟩, 6), (⟨"BoxVault", "orderAllows", "(ILBoxVault$Box;I)Z"⟩, 6), (⟨"BoxVault$OrderBook", "kindOf", "(I)I"⟩, 6), (⟨"BoxVault$OrderBook", "has", "(I)Z"⟩, 6), (⟨"BoxVault$OrderBook", "personOf", "(I)I"⟩, 6), (⟨"BoxVault", "isHeirOfDead", "(II)Z"⟩, 6), (⟨"BoxVault", "isHeir", "(II)Z"⟩, 6), (⟨"BoxVault", "holderAllows", "(LBoxVault$Box;I)Z"⟩, 6), (⟨"BoxVault$Box", "noticesOn", "(I)I"⟩, 10)]
theorem lw_r1 : ∀ q ∈ lw_privs_1, lw_okq q := List.forall_mem_cons.mpr ⟨lw_p0, List.forall_mem_cons.mpr ⟨lw_p1, List.forall_mem_cons.mpr ⟨lw_p2, List.forall_mem_cons.mpr ⟨lw_p3, List.forall_mem_cons.mpr ⟨lw_p4, List.forall_mem_cons.mpr ⟨lw_p5, List.forall_mem_cons.mpr ⟨lw_p6, List.forall_mem_cons.mpr ⟨lw_p7, List.forall_mem_cons.mpr ⟨lw_p8, List.forall_mem_cons.mpr ⟨lw_p9, List.forall_mem_cons.mpr ⟨lw_p10, List.forall_mem_cons.mpr ⟨lw_p11, List.forall_mem_cons.mpr ⟨lw_p12, List.forall_mem_cons.mpr ⟨lw_p13, List.forall_mem_cons.mpr ⟨lw_p14, List.forall_mem_cons.mpr ⟨lw_p15, fun _ h => absurd h List.not_mem_nil⟩⟩⟩⟩⟩⟩⟩⟩⟩⟩⟩⟩⟩⟩⟩⟩
theorem lw_p16 : lw_okq (⟨"BoxVault$Box", "overdueOn", "(I)I"⟩, 10) := ⟨⟨by decide +kernel, by decide +kernel⟩, List.mem_of_getElem? (i := 49) (by decide +kernel), List.mem_of_getElem? (i := 302) (by decide +kernel), List.mem_of_getElem? (i := 303) (by decide +kernel)⟩
theorem lw_p17 : lw_okq (⟨"BoxVault$Box", "hasProxyOn", "(II)Z"⟩, 10) := ⟨⟨by decide +kernel, by decide +kernel⟩, List.mem_of_getElem? (i := 49) (by decide +kernel), List.mem_of_getElem? (i := 312) (by decide +kernel), List.mem_of_getElem? (i := 313) (by decide +kernel)⟩
theorem lw_p18 : lw_okq (⟨"BoxVault", "makeFree", "(ILBoxVault$Box;)V"⟩, 6) := ⟨⟨by decide +kernel, by decide +kernel⟩, List.mem_of_getElem? (i := 13) (by decide +kernel), List.mem_of_getElem? (i := 317) (by decide +kernel), List.mem_of_getElem? (i := 318) (by decide +kernel)⟩
theorem lw_p19 : lw_okq (⟨"BoxVault$Box", "empty", "()V"⟩, 10) := ⟨⟨by decide +kernel, by decide +kernel⟩, List.mem_of_getElem? (i := 49) (by decide +kernel), List.mem_of_getElem? (i := 321) (by decide +kernel), List.mem_of_getElem? (i := 322) (by decide +kernel)⟩
theorem lw_p20 : lw_okq (⟨"BoxVault$Box", "endProxies", "()V"⟩, 10) := ⟨⟨by decide +kernel, by decide +kernel⟩, List.mem_of_getElem? (i := 49) (by decide +kernel), List.mem_of_getElem? (i := 325) (by decide +kernel), List.mem_of_getElem? (i := 326) (by decide +kernel)⟩
theorem lw_p21 : lw_okq (⟨"BoxVault$OrderBook", "endAllOn", "(I)V"⟩, 6) := ⟨⟨by decide +kernel, by decide +kernel⟩, List.mem_of_getElem? (i := 23) (by decide +kernel), List.mem_of_getElem? (i := 329) (by decide +kernel), List.mem_of_getElem? (i := 330) (by decide +kernel)⟩
theorem lw_p22 : lw_okq (⟨"BoxVault", "canWitness", "(LBoxVault$Box;I)Z"⟩, 6) := ⟨⟨by decide +kernel, by decide +kernel⟩, List.mem_of_getElem? (i := 13) (by decide +kernel), List.mem_of_getElem? (i := 342) (by decide +kernel), List.mem_of_getElem? (i := 343) (by decide +kernel)⟩
theorem lw_p23 : lw_okq (⟨"BoxVault$Box", "breakOpen", "(I)V"⟩, 10) := ⟨⟨by decide +kernel, by decide +kernel⟩, List.mem_of_getElem? (i := 49) (by decide +kernel), List.mem_of_getElem? (i := 348) (by decide +kernel), List.mem_of_getElem? (i := 349) (by decide +kernel)⟩
theorem lw_p24 : lw_okq (⟨"BoxVault", "mayFetch", "(ILBoxVault$Box;I)Z"⟩, 6) := ⟨⟨by decide +kernel, by decide +kernel⟩, List.mem_of_getElem? (i := 13) (by decide +kernel), List.mem_of_getElem? (i := 360) (by decide +kernel), List.mem_of_getElem? (i := 361) (by decide +kernel)⟩
theorem lw_p25 : lw_okq (⟨"BoxVault$Box", "addProxy", "(III)V"⟩, 10) := ⟨⟨by decide +kernel, by decide +kernel⟩, List.mem_of_getElem? (i := 49) (by decide +kernel), List.mem_of_getElem? (i := 375) (by decide +kernel), List.mem_of_getElem? (i := 376) (by decide +kernel)⟩
theorem lw_p26 : lw_okq (⟨"BoxVault$OrderBook", "isFull", "()Z"⟩, 6) := ⟨⟨by decide +kernel, by decide +kernel⟩, List.mem_of_getElem? (i := 23) (by decide +kernel), List.mem_of_getElem? (i := 403) (by decide +kernel), List.mem_of_getElem? (i := 404) (by decide +kernel)⟩
theorem lw_p27 : lw_okq (⟨"BoxVault$OrderBook", "add", "(IIII)I"⟩, 6) := ⟨⟨by decide +kernel, by decide +kernel⟩, List.mem_of_getElem? (i := 23) (by decide +kernel), List.mem_of_getElem? (i := 408) (by decide +kernel), List.mem_of_getElem? (i := 409) (by decide +kernel)⟩
theorem lw_p28 : lw_okq (⟨"BoxVault$OrderBook", "isInForce", "(I)Z"⟩, 6) := ⟨⟨by decide +kernel, by decide +kernel⟩, List.mem_of_getElem? (i := 23) (by decide +kernel), List.mem_of_getElem? (i := 437) (by decide +kernel), List.mem_of_getElem? (i := 438) (by decide +kernel)⟩
theorem lw_p29 : lw_okq (⟨"BoxVault$OrderBook", "isBinding", "(I)Z"⟩, 6) := ⟨⟨by decide +kernel, by decide +kernel⟩, List.mem_of_getElem? (i := 23) (by decide +kernel), List.mem_of_getElem? (i := 442) (by decide +kernel), List.mem_of_getElem? (i := 443) (by decide +kernel)⟩
theorem lw_p30 : lw_okq (⟨"BoxVault$OrderBook", "end", "(I)V"⟩, 6) := ⟨⟨by decide +kernel, by decide +kernel⟩, List.mem_of_getElem? (i := 23) (by decide +kernel), List.mem_of_getElem? (i := 447) (by decide +kernel), List.mem_of_getElem? (i := 448) (by decide +kernel)⟩
theorem lw_p31 : lw_okq (⟨"BoxVaultModel", "fails", "(I)I"⟩, 21) := ⟨⟨by decide +kernel, by decide +kernel⟩, List.mem_of_getElem? (i := 500) (by decide +kernel), List.mem_of_getElem? (i := 581) (by decide +kernel), List.mem_of_getElem? (i := 582) (by decide +kernel)⟩
def lw_privs_2 : List (MethodName × Nat) := [(⟨"BoxVault$Box", "overdueOn", "(I)I"⟩, 10), (⟨"BoxVault$Box", "hasProxyOn", "(II)Z"⟩, 10), (⟨"BoxVault", "makeFree", "(ILBoxVault$Box;)V"⟩, 6), (⟨"BoxVault$Box", "empty", "()V"⟩, 10), (⟨"BoxVault$Box", "endProxies", "()V"⟩, 10), (⟨"BoxVault$OrderBook", "endAllOn", "(I)V"⟩, 6), (⟨"BoxVault", "canWitness", "(LBoxVault$Box;I)Z"⟩, 6), (⟨"BoxVault$Box", "breakOpen", "(I)V"⟩, 10), (⟨"BoxVault", "mayFetch", "(ILBoxVault$Box;I)Z"⟩, 6), (⟨"BoxVault$Box", "addProxy", "(III)V"⟩, 10), (⟨"BoxVault$OrderBook", "isFull", "()Z"⟩, 6), (⟨"BoxVault$OrderBook", "add", "(IIII)I"⟩, 6), (⟨"BoxVault$OrderBook", "isInForce", "(I)Z"⟩, 6), (⟨"BoxVault$OrderBook", "isBinding", "(I)Z"⟩, 6), (⟨"BoxVault$OrderBook", "end", "(I)V"⟩, 6), (⟨"BoxVaultModel", "fails", "(I)I"⟩, 21)]
theorem lw_r2 : ∀ q ∈ lw_privs_2, lw_okq q := List.forall_mem_cons.mpr ⟨lw_p16, List.forall_mem_cons.mpr ⟨lw_p17, List.forall_mem_cons.mpr ⟨lw_p18, List.forall_mem_cons.mpr ⟨lw_p19, List.forall_mem_cons.mpr ⟨lw_p20, List.forall_mem_cons.mpr ⟨lw_p21, List.forall_mem_cons.mpr ⟨lw_p22, List.forall_mem_cons.mpr ⟨lw_p23, List.forall_mem_cons.mpr ⟨lw_p24, List.forall_mem_cons.mpr ⟨lw_p25, List.forall_mem_cons.mpr ⟨lw_p26, List.forall_mem_cons.mpr ⟨lw_p27, List.forall_mem_cons.mpr ⟨lw_p28, List.forall_mem_cons.mpr ⟨lw_p29, List.forall_mem_cons.mpr ⟨lw_p30, List.forall_mem_cons.mpr ⟨lw_p31, fun _ h => absurd h List.not_mem_nil⟩⟩⟩⟩⟩⟩⟩⟩⟩⟩⟩⟩⟩⟩⟩⟩
theorem lw_p32 : lw_okq (⟨"BoxVaultModel", "isRented", "(I)Z"⟩, 21) := ⟨⟨by decide +kernel, by decide +kernel⟩, List.mem_of_getElem? (i := 500) (by decide +kernel), List.mem_of_getElem? (i := 600) (by decide +kernel), List.mem_of_getElem? (i := 601) (by decide +kernel)⟩
theorem lw_p33 : lw_okq (⟨"BoxVaultModel", "right", "(II)I"⟩, 21) := ⟨⟨by decide +kernel, by decide +kernel⟩, List.mem_of_getElem? (i := 500) (by decide +kernel), List.mem_of_getElem? (i := 608) (by decide +kernel), List.mem_of_getElem? (i := 609) (by decide +kernel)⟩
theorem lw_p34 : lw_okq (⟨"BoxVaultModel", "binds", "(I)I"⟩, 21) := ⟨⟨by decide +kernel, by decide +kernel⟩, List.mem_of_getElem? (i := 500) (by decide +kernel), List.mem_of_getElem? (i := 612) (by decide +kernel), List.mem_of_getElem? (i := 613) (by decide +kernel)⟩
theorem lw_p35 : lw_okq (⟨"BoxVaultModel", "isOrdered", "(II)Z"⟩, 21) := ⟨⟨by decide +kernel, by decide +kernel⟩, List.mem_of_getElem? (i := 500) (by decide +kernel), List.mem_of_getElem? (i := 616) (by decide +kernel), List.mem_of_getElem? (i := 617) (by decide +kernel)⟩
theorem lw_p36 : lw_okq (⟨"BoxVaultModel", "isHeir", "(II)Z"⟩, 21) := ⟨⟨by decide +kernel, by decide +kernel⟩, List.mem_of_getElem? (i := 500) (by decide +kernel), List.mem_of_getElem? (i := 620) (by decide +kernel), List.mem_of_getElem? (i := 621) (by decide +kernel)⟩
theorem lw_p37 : lw_okq (⟨"BoxVaultModel", "noticesOf", "(I)I"⟩, 21) := ⟨⟨by decide +kernel, by decide +kernel⟩, List.mem_of_getElem? (i := 500) (by decide +kernel), List.mem_of_getElem? (i := 624) (by decide +kernel), List.mem_of_getElem? (i := 625) (by decide +kernel)⟩
theorem lw_p38 : lw_okq (⟨"BoxVaultModel", "overdue", "(I)I"⟩, 21) := ⟨⟨by decide +kernel, by decide +kernel⟩, List.mem_of_getElem? (i := 500) (by decide +kernel), List.mem_of_getElem? (i := 628) (by decide +kernel), List.mem_of_getElem? (i := 629) (by decide +kernel)⟩
theorem lw_p39 : lw_okq (⟨"BoxVaultModel", "isProxy", "(II)Z"⟩, 21) := ⟨⟨by decide +kernel, by decide +kernel⟩, List.mem_of_getElem? (i := 500) (by decide +kernel), List.mem_of_getElem? (i := 632) (by decide +kernel), List.mem_of_getElem? (i := 633) (by decide +kernel)⟩
theorem lw_p40 : lw_okq (⟨"BoxVaultModel", "frees", "(I)V"⟩, 21) := ⟨⟨by decide +kernel, by decide +kernel⟩, List.mem_of_getElem? (i := 500) (by decide +kernel), List.mem_of_getElem? (i := 636) (by decide +kernel), List.mem_of_getElem? (i := 637) (by decide +kernel)⟩
def lw_privs_3 : List (MethodName × Nat) := [(⟨"BoxVaultModel", "isRented", "(I)Z"⟩, 21), (⟨"BoxVaultModel", "right", "(II)I"⟩, 21), (⟨"BoxVaultModel", "binds", "(I)I"⟩, 21), (⟨"BoxVaultModel", "isOrdered", "(II)Z"⟩, 21), (⟨"BoxVaultModel", "isHeir", "(II)Z"⟩, 21), (⟨"BoxVaultModel", "noticesOf", "(I)I"⟩, 21), (⟨"BoxVaultModel", "overdue", "(I)I"⟩, 21), (⟨"BoxVaultModel", "isProxy", "(II)Z"⟩, 21), (⟨"BoxVaultModel", "frees", "(I)V"⟩, 21)]
theorem lw_r3 : ∀ q ∈ lw_privs_3, lw_okq q := List.forall_mem_cons.mpr ⟨lw_p32, List.forall_mem_cons.mpr ⟨lw_p33, List.forall_mem_cons.mpr ⟨lw_p34, List.forall_mem_cons.mpr ⟨lw_p35, List.forall_mem_cons.mpr ⟨lw_p36, List.forall_mem_cons.mpr ⟨lw_p37, List.forall_mem_cons.mpr ⟨lw_p38, List.forall_mem_cons.mpr ⟨lw_p39, List.forall_mem_cons.mpr ⟨lw_p40, fun _ h => absurd h List.not_mem_nil⟩⟩⟩⟩⟩⟩⟩⟩⟩
def lw_privs : List (MethodName × Nat) := lw_privs_1 ++ (lw_privs_2 ++ (lw_privs_3))
def lw_tbl : List Cond := k2_sels lw_privs ++ tables_1
theorem lw_privs_ok : ∀ q ∈ lw_privs, lw_okq q := by
  show ∀ q ∈ lw_privs_1 ++ (lw_privs_2 ++ (lw_privs_3)), lw_okq q
  exact List.forall_mem_append.mpr ⟨lw_r1, List.forall_mem_append.mpr ⟨lw_r2, lw_r3⟩⟩
-- ===== end of PART A; then your names; then what follows =====
end
section
/-! ===== BEGIN words of one list among another's, by their places ===== -/
theorem goodIn_r {big : List Cond} (ws : List Cond) (ps : List Nat) (hp : ws = ps.filterMap (fun i => big[i]?)) (h : ws.all goodWord = true) : GoodIn big ws := by
  intro w hw
  have h1 := List.all_eq_true.mp h w hw
  rw [hp] at hw
  obtain ⟨i, -, hi⟩ := List.mem_filterMap.mp hw
  have hm : w ∈ big := by first | exact List.mem_of_getElem? hi | exact List.getElem?_mem hi
  exact ⟨hm, good_of_word h1⟩
theorem goodIn_app {big a b : List Cond} (ha : GoodIn big a) (hb : GoodIn big b) : GoodIn big (a ++ b) := fun w h => (List.mem_append.mp h).elim (ha w) (hb w)
theorem goodIn_ca {big a b : List Cond} {c : Cond} (ha : GoodIn big (c :: a)) (hb : GoodIn big b) : GoodIn big (c :: (a ++ b)) := fun w h => (List.mem_cons.mp h).elim (fun e => ha w (List.mem_cons.mpr (Or.inl e))) (fun h => (List.mem_append.mp h).elim (fun h => ha w (List.mem_cons.mpr (Or.inr h))) (hb w))
theorem goodIn_sub {big ws : List Cond} (hm : ∀ w ∈ ws, w ∈ big) (h : ws.all goodWord = true) : GoodIn big ws := fun w hw => ⟨hm w hw, good_of_word (List.all_eq_true.mp h w hw)⟩
/-! ===== END ===== -/

/-! ===== BEGIN exceptions that leave a method, and their catching by the caller (launches without stack traces) ===== -/
section VXA
/-! The laws vx_back, vx_callV, vx_callS, vx_callSW, vx_throw0, vx_throwS follow proofs of the library, with one case more: JvmDerived/Free/Laws.lean (Back.of_free), Shelf42/LK1.lean (callV, callS), Shelf/KitTraced.lean (throwNew0V, throwNewS). -/
/-- where a method has thrown q: the class by its name, the cell, what was written, the world -/
def vx_T (XC : String → State → State → Prop) (st : State) (q : Addr) (t : State) (mc ms : Nat) (free : Addr → Prop) : Prop :=
  ∃ (E : String) (ce : Cell) (L : List Loc), XC E st t ∧ t.heap[q]? = some ce ∧ ce.vm = .none ∧ st.vm.findClass E = some ce.cls ∧ st.WarmedH t.vm ∧ st.sameButNew ({ t with vm := st.vm } : State) L mc ms ∧ ∀ z ∈ L, free z.base
def vx_Q (Qc : Array Value → State → Outcome → State → Prop) (XC : String → State → State → Prop) (mc ms : Nat) (free : Addr → Prop) : Array Value → State → Outcome → State → Prop := fun a st o t =>
  (Qc a st o t ∧ ∃ L, FrameEnd st o t L mc ms ∧ ∀ q ∈ L, free q.base) ∨ ∃ q, o = .threw q ∧ vx_T XC st q t mc ms free
/-- a callee that returns or throws -/
def vx_Met (l : Launch) (y : MethodName) (ws : List Cond) (rm : Room) (Pc : Array Value → State → Prop) (Qc : Array Value → State → Outcome → State → Prop) (XC : String → State → State → Prop) (mc ms : Nat) (free : Addr → Prop) : Prop :=
  MetFree l y (headSpec ws rm) Pc (fun _ _ _ _ _ => True) (vx_Q Qc XC mc ms free)
def vx_Post (XC : String → State → State → Prop) (mc ms : Nat) (free : Addr → Prop) : Pt → Array Value → Addr → Pt → Prop := fun A a q B =>
  ∃ (g : JFrame) (mk : MethodId) (t : State) (L : List Loc) (E : String) (ce : Cell), B.U.heap = t.heap ∧ B.U.vm = t.vm ∧ XC E (A.U.calling g mk a) t ∧ t.heap[q]? = some ce ∧ ce.vm = .none ∧ A.U.vm.findClass E = some ce.cls ∧ B.locs = A.locs ++ L ∧ (∀ z ∈ L, free z.base) ∧ B.cells = A.cells + mc ∧ B.slots = A.slots + ms
def vx_Back (l : Launch) (R : Room) (p : Program) (e : Env) (below : List Frame) (s : State) (sargs : Array Value) (y : MethodName) (len W9 : Nat)
    (Pre : Pt → Array Value → Prop) (Post : Pt → Array Value → Option Value → Pt → Prop) (PostX : Pt → Array Value → Addr → Pt → Prop) : Prop :=
  ∀ (m : MethodId) (meth : Method) (c : Code) (A : Pt) (g : JFrame) (ig : Instr) (mk : MethodId) (a : Array Value),
    Stand p l e R s m sargs below meth c A.U A.locs A.cells A.slots → g.method = m → g.locals.size = c.maxLocals → decode c.code g.pc = .ok (ig, len) →
    2 * g.monitorRoom + (g.stack.map fun v => v.category).sum ≤ W9 → A.U.methodNamed? y = some mk → Pre A a →
    (∃ (v : Option Value) (B : Pt), Stand p l e R s m sargs below meth c B.U B.locs B.cells B.slots ∧ Post A a v B ∧
      Steps p.tables e below (doInvoke e (A.U.setTop g) [] mk a).1 (B.U.setTop { g with pc := g.pc + len, stack := v.toList ++ g.stack })) ∨
    (∃ (q : Addr) (B : Pt), Stand p l e R s m sargs below meth c B.U B.locs B.cells B.slots ∧ PostX A a q B ∧
      Steps p.tables e below (doInvoke e (A.U.setTop g) [] mk a).1 ((B.U.setTop g).pushFrame (.throwing q)))
section Payer
variable {l : Launch} {R : Room} {p : Program} {e : Env} {below : List Frame} {s : State} {sargs : Array Value} {y : MethodName} {len W9 : Nat}
theorem vx_back {ws : List Cond} {rm : Room} {Pc : Array Value → State → Prop} {Qc : Array Value → State → Outcome → State → Prop} {XC : String → State → State → Prop} {mc ms : Nat} {free : Addr → Prop} {bytes : ByteArray} {maxL : Nat} {ret : Option FieldType}
    (hM : vx_Met l y ws rm Pc Qc XC mc ms free) (hblind : FrameBlind Pc) (hrc : rm.cells = mc) (hrs : rm.slots = ms)
    (hframes : rm.frames + 1 ≤ R.frames) (hlocals : W9 + (maxL + 11) + rm.locals ≤ R.locals)
    (hws : ∀ w ∈ ws, ∀ a' U, s.WarmedH U.vm → w.before a' U = true) (hcode : Cond.code y bytes maxL ret ∈ ws) (hinit : ∀ a' U, s.WarmedH U.vm → (Cond.initialized y.cls).before a' U = true) :
    vx_Back l R p e below s sargs y len W9 (PreOf R mc ms Pc) (PostOf Qc mc ms free) (vx_Post XC mc ms free) := by
  intro m meth c A g ig mk a X hg hsize hdg hW hn hp
  have h1 : (headSpec ws rm).pre.before a A.U = true := atoms_intro fun w hw => hws w hw _ _ X.warmed
  have h2 : (Cond.code y bytes maxL ret).before a A.U = true := hws _ hcode _ _ X.warmed
  have h3 : (Cond.initialized y.cls).before a A.U = true := hinit _ _ X.warmed
  have h4 : A.cells + (headSpec ws rm).room.cells ≤ R.cells := by rw [show (headSpec ws rm).room.cells = mc from hrc]; exact hp.1
  have h5 : A.slots + (headSpec ws rm).room.slots ≤ R.slots := by rw [show (headSpec ws rm).room.slots = ms from hrs]; exact hp.2.1
  have hPc : Pc a (A.U.calling g mk a) := hblind _ _ _ _ hp.2.2
  obtain ⟨U, Ls, c0, s0⟩ := A
  dsimp only [Pt.U, Pt.locs, Pt.cells, Pt.slots] at h1 h2 h3 h4 h5 X hn hPc ⊢
  obtain ⟨methY, cY, hmY, hcY, -, hlY, -, -, -, -⟩ := Cond.code_spec hn h2
  obtain ⟨kY, hkY, -⟩ := className_of_methodNamed hn
  have hinitY : kY.init = .initialized := Cond.initialized_spec (findClass_of_methodNamed hn) hkY h3
  have h : At U g.method c below := by rw [hg]; exact X.here
  have hlocals9 : W9 + (maxL + 11) + (headSpec ws rm).room.locals ≤ R.locals := hlocals
  have happ : (headSpec ws rm).appliesLoose y e.platform (U.calling g mk a) = true :=
    Spec.appliesLoose_calling (g := g) h hdg hn hkY hinitY
      (X.room_calling (g := g) (R' := (headSpec ws rm).room) hsize hmY hcY hframes (by rw [hlY]; omega) h4 h5) h1
  obtain ⟨mid, hmid⟩ := h.above
  have hfr : (U.setTop g).frames = (.java g :: mid) ++ below := by rw [State.frames_setTop' g h.top, hmid]; rfl
  obtain ⟨o, s₂, hsteps, -, hend, hq⟩ := Steps.callFree hM p X.admits X.cas X.clock (acts := []) hfr happ hPc trivial
  have hq' : vx_Q Qc XC mc ms free a (U.calling g mk a) o s₂ := hq
  rw [State.frames_setTop' g h.top] at hend
  obtain ⟨g₀, hg0⟩ := Option.isSome_iff_exists.mp h.top
  obtain ⟨r, hr⟩ := State.topJava?_eq_some.mp hg0
  have hr' : (({ U with heap := s₂.heap, slotsUsed := s₂.slotsUsed } : State).setVm s₂.vm).frames = .java g₀ :: r := hr
  rcases hq' with ⟨hqc, L, hfe, hL⟩ | ⟨q, rfl, E, ce, L, hx, hce, hcv, hcl, hW₂, hsm, hL⟩
  · obtain ⟨⟨v, rfl⟩, hW₂, e2, q2, q3, q4, q5, q6⟩ := id hfe
    have e3 : s₂ = ({ (U.calling g mk a).setFrames s₂.frames with heap := s₂.heap, slotsUsed := s₂.slotsUsed } : State).setVm s₂.vm := by
      have : s₂ = ({ s₂ with vm := (U.calling g mk a).vm } : State).setVm s₂.vm := rfl
      rw [e2] at this
      exact this
    obtain ⟨c₂, i₂, len₂, hc₂, hd₂, hf₂⟩ := hend
    have hW' : U.WarmedH s₂.vm := hW₂
    have hcc : c₂ = c := by
      have h1 : s₂.code? g.method = U.code? g.method := by
        rw [State.code?_eq, State.code?_eq, hW'.alike.method?]
      exact Option.some.inj (hc₂.symm.trans (h1.trans h.code))
    subst hcc
    have hlen : len₂ = len := by rw [hdg] at hd₂; cases hd₂; rfl
    subst hlen
    have hs₂ : s₂ = (({ U with heap := s₂.heap, slotsUsed := s₂.slotsUsed } : State).setVm s₂.vm).setTop { g with pc := g.pc + len₂, stack := v.toList ++ g.stack } := by
      refine e3.trans ?_
      rw [hf₂, State.calling_eq h.top, State.setFrames_setFrames, State.setTop_of_frames _ hr', hr]
      rfl
    have hsame : U.sameButNew ({ U with heap := s₂.heap, slotsUsed := s₂.slotsUsed } : State) L mc ms := by
      refine ⟨?_, q2, q3, q4, q5, q6⟩
      obtain ⟨t, ht, -⟩ := State.frames_cons hr
      show ({ U with heap := s₂.heap, slotsUsed := s₂.slotsUsed } : State) = { U.setFrames U.frames with heap := s₂.heap, slotsUsed := s₂.slotsUsed }
      rw [State.setFrames_self ht]
    subst hg
    refine Or.inl ⟨v, ⟨(({ U with heap := s₂.heap, slotsUsed := s₂.slotsUsed } : State).setVm s₂.vm), Ls ++ L, c0 + mc, s0 + ms⟩,
      ⟨X.admits, X.cas, X.clock, X.frames, X.room, X.hears, X.method, X.code, (X.here.setHeapUsed s₂.heap s₂.slotsUsed).setVm hW'.alike, X.tail, State.WarmedH.trans X.warmed hW', X.limits, X.bytes, X.same.trans (hsame.setVm s.vm)⟩,
      ⟨g, mk, s₂, L, rfl, rfl, hqc, rfl, hL, rfl, rfl⟩, ?_⟩
    show Steps p.tables e below _ ((({ U with heap := s₂.heap, slotsUsed := s₂.slotsUsed } : State).setVm s₂.vm).setTop { g with pc := g.pc + len₂, stack := v.toList ++ g.stack })
    rw [← hs₂]
    exact hsteps
  · obtain ⟨e2, q2, q3, q4, q5, q6⟩ := id hsm
    have e3 : s₂ = ({ (U.calling g mk a).setFrames s₂.frames with heap := s₂.heap, slotsUsed := s₂.slotsUsed } : State).setVm s₂.vm := by
      have : s₂ = ({ s₂ with vm := (U.calling g mk a).vm } : State).setVm s₂.vm := rfl
      rw [e2] at this
      exact this
    have hf₂ : s₂.frames = .throwing q :: .java g :: U.frames.tail := hend
    have hW' : U.WarmedH s₂.vm := hW₂
    have hs₂ : s₂ = ((({ U with heap := s₂.heap, slotsUsed := s₂.slotsUsed } : State).setVm s₂.vm).setTop g).pushFrame (.throwing q) := by
      refine e3.trans ?_
      rw [hf₂, State.calling_eq h.top, State.setFrames_setFrames, State.pushFrame, State.frames_setTop _ hr', State.setTop_of_frames _ hr', State.setFrames_setFrames, hr]
      rfl
    have hsame : U.sameButNew ({ U with heap := s₂.heap, slotsUsed := s₂.slotsUsed } : State) L mc ms := by
      refine ⟨?_, q2, q3, q4, q5, q6⟩
      obtain ⟨t, ht, -⟩ := State.frames_cons hr
      show ({ U with heap := s₂.heap, slotsUsed := s₂.slotsUsed } : State) = { U.setFrames U.frames with heap := s₂.heap, slotsUsed := s₂.slotsUsed }
      rw [State.setFrames_self ht]
    subst hg
    refine Or.inr ⟨q, ⟨(({ U with heap := s₂.heap, slotsUsed := s₂.slotsUsed } : State).setVm s₂.vm), Ls ++ L, c0 + mc, s0 + ms⟩,
      ⟨X.admits, X.cas, X.clock, X.frames, X.room, X.hears, X.method, X.code, (X.here.setHeapUsed s₂.heap s₂.slotsUsed).setVm hW'.alike, X.tail, State.WarmedH.trans X.warmed hW', X.limits, X.bytes, X.same.trans (hsame.setVm s.vm)⟩,
      ⟨g, mk, s₂, L, E, ce, rfl, rfl, hx, hce, hcv, hcl, rfl, hL, rfl, rfl⟩, ?_⟩
    show Steps p.tables e below _ (((({ U with heap := s₂.heap, slotsUsed := s₂.slotsUsed } : State).setVm s₂.vm).setTop g).pushFrame (.throwing q))
    rw [← hs₂]
    exact hsteps
end Payer
section Calls
variable {p : Program} {l : Launch} {e : Env} {R : Room} {s : State} {m : MethodId} {args : Array Value} {below : List Frame} {meth : Method} {c : Code} {T : State} {locs : List Loc} {cells slots : Nat}
theorem vx_callV (X : Stand p l e R s m args below meth c T locs cells slots) (hexec : p.tables.exec = Jvm.exec) {own C : String} {index : Nat} {y : MethodName} {bytes : ByteArray} {maxL : Nat} {ret : Option FieldType}
    (hown : s.vm.findClass own = some m.cls) (hlink : (Cond.methodLink own index y).before args s = true) (hinst : (Cond.instanceMethod y).before args s = true) (hsel : (Cond.selects C y y).before args s = true)
    (hcode : (Cond.code y bytes maxL ret).before args s = true) (hy : y.cls ≠ "java/lang/invoke/MethodHandle" ∧ y.cls ≠ "java/lang/invoke/VarHandle")
    {W9 : Nat} {Pre : Pt → Array Value → Prop} {Post : Pt → Array Value → Option Value → Pt → Prop} {PostX : Pt → Array Value → Addr → Pt → Prop} (hK : vx_Back l R p e below s args y 3 W9 Pre Post PostX)
    {b : Addr} {cellB : Cell} (hcell : T.heap[b]? = some cellB) (hobj : cellB.vm.isStatics = false) (hcls : s.vm.findClass C = some cellB.cls)
    {g : JFrame} (hg : g.method = m) (hsize : g.locals.size = c.maxLocals) {argsL rest : List Value} (hlen : ∀ sig, parseMethodDescriptor y.desc = some sig → argsL.length = sig.parameters.length)
    (hstack : g.stack = argsL.reverse ++ .ref b :: rest) (hW : 2 * g.monitorRoom + (rest.map fun v => v.category).sum ≤ W9) (hdg : decode c.code g.pc = .ok (.invokevirtual index, 3))
    (hpre : ∀ vm₁, s.WarmedH vm₁ → Pre ⟨T.setVm vm₁, locs, cells, slots⟩ (Value.ref b :: argsL).toArray) :
    (∃ (v : Option Value) (vm₁ : Vm) (B : Pt), s.WarmedH vm₁ ∧ Stand p l e R s m args below meth c B.U B.locs B.cells B.slots ∧ Post ⟨T.setVm vm₁, locs, cells, slots⟩ (Value.ref b :: argsL).toArray v B ∧
      ∀ target, Steps p.tables e below (B.U.setTop { g with pc := g.pc + 3, stack := v.toList ++ rest }) target → Steps p.tables e below (T.setTop g) target) ∨
    (∃ (q : Addr) (vm₁ : Vm) (B : Pt), s.WarmedH vm₁ ∧ Stand p l e R s m args below meth c B.U B.locs B.cells B.slots ∧ PostX ⟨T.setVm vm₁, locs, cells, slots⟩ (Value.ref b :: argsL).toArray q B ∧
      Steps p.tables e below (T.setTop g) ((B.U.setTop { g with stack := rest }).pushFrame (.throwing q))) := by
  obtain ⟨mk, methM, hnamed, hmethM, hstM, habM⟩ := Cond.instanceMethod_spec hinst
  obtain ⟨methM', cM, hmethM', -, -, -, -, -, -, hsigM⟩ := Cond.code_spec hnamed hcode
  cases hmethM.symm.trans hmethM'
  obtain ⟨c2, r2, m2, q1, q2, q3, q4, kP, hkP, hkPi⟩ := Cond.selects_spec hsel
  cases hcls.symm.trans q1
  cases (State.methodFound?_of_named hnamed hy).symm.trans q2
  cases hnamed.symm.trans q3
  have hselP : selectMethod e.platform s.vm cellB.cls mk = .method mk := by rw [Launch.admits_selectMethod X.admits]; exact q4
  obtain ⟨vm₁, X₁, hstep₁⟩ := X.invokevirtual hexec hown hlink hnamed hmethM hstM hkP hkPi hy (a := b) (cell := cellB) hcell
    (fun z h => by rw [h] at hobj; cases hobj) hselP hmethM habM hkP hkPi (g := g) hg (argsL := argsL) (rest := rest) (hlen _ hsigM) hstack hdg
  rcases hK m meth c ⟨T.setVm vm₁, locs, cells, slots⟩ { g with stack := rest } (.invokevirtual index) mk (Value.ref b :: argsL).toArray X₁ hg hsize hdg hW (X₁.named hnamed) (hpre vm₁ X₁.warmed) with ⟨v, B, X', hpost, hsteps⟩ | ⟨q, B, X', hpost, hsteps⟩
  · exact Or.inl ⟨v, vm₁, B, X₁.warmed, X', hpost, fun target h => hstep₁ _ fun acts => by rw [doInvoke_state]; exact hsteps.trans h⟩
  · exact Or.inr ⟨q, vm₁, B, X₁.warmed, X', hpost, hstep₁ _ fun acts => by rw [doInvoke_state]; exact hsteps⟩
theorem vx_callS (X : Stand p l e R s m args below meth c T locs cells slots) (hexec : p.tables.exec = Jvm.exec) {own : String} {index : Nat} {y : MethodName} {bytes : ByteArray} {maxL : Nat} {ret : Option FieldType}
    (hown : s.vm.findClass own = some m.cls) (hlink : (Cond.methodLink own index y).before args s = true) (hstat : (Cond.static y).before args s = true) (hinit : (Cond.initialized y.cls).before args s = true)
    (hcode : (Cond.code y bytes maxL ret).before args s = true) (hy : y.cls ≠ "java/lang/invoke/MethodHandle" ∧ y.cls ≠ "java/lang/invoke/VarHandle")
    {W9 : Nat} {Pre : Pt → Array Value → Prop} {Post : Pt → Array Value → Option Value → Pt → Prop} {PostX : Pt → Array Value → Addr → Pt → Prop} (hK : vx_Back l R p e below s args y 3 W9 Pre Post PostX)
    {g : JFrame} (hg : g.method = m) (hsize : g.locals.size = c.maxLocals) {argsL rest : List Value} (hlen : ∀ sig, parseMethodDescriptor y.desc = some sig → argsL.length = sig.parameters.length)
    (hstack : g.stack = argsL.reverse ++ rest) (hW : 2 * g.monitorRoom + (rest.map fun v => v.category).sum ≤ W9) (hdg : decode c.code g.pc = .ok (.invokestatic index, 3))
    (hpre : ∀ vm₁, s.WarmedH vm₁ → Pre ⟨T.setVm vm₁, locs, cells, slots⟩ argsL.toArray) :
    (∃ (v : Option Value) (vm₁ : Vm) (B : Pt), s.WarmedH vm₁ ∧ Stand p l e R s m args below meth c B.U B.locs B.cells B.slots ∧ Post ⟨T.setVm vm₁, locs, cells, slots⟩ argsL.toArray v B ∧
      ∀ target, Steps p.tables e below (B.U.setTop { g with pc := g.pc + 3, stack := v.toList ++ rest }) target → Steps p.tables e below (T.setTop g) target) ∨
    (∃ (q : Addr) (vm₁ : Vm) (B : Pt), s.WarmedH vm₁ ∧ Stand p l e R s m args below meth c B.U B.locs B.cells B.slots ∧ PostX ⟨T.setVm vm₁, locs, cells, slots⟩ argsL.toArray q B ∧
      Steps p.tables e below (T.setTop g) ((B.U.setTop { g with stack := rest }).pushFrame (.throwing q))) := by
  obtain ⟨mk, hnamed⟩ := Cond.code_named hcode
  obtain ⟨methM, cM, hmethM, -, -, -, -, -, -, hsigM⟩ := Cond.code_spec hnamed hcode
  have hstatic : methM.isStatic = true := Cond.static_spec hnamed hmethM hstat
  obtain ⟨kP, hkP, -⟩ := className_of_methodNamed hnamed
  have hinitP : kP.init = .initialized := Cond.initialized_spec (findClass_of_methodNamed hnamed) hkP hinit
  obtain ⟨vm₁, X₁, hstep₁⟩ := X.invokestatic hexec hown hlink hnamed hmethM hstatic hkP hinitP hy (g := g) hg (argsL := argsL) (rest := rest) (hlen _ hsigM) hstack hdg
  rcases hK m meth c ⟨T.setVm vm₁, locs, cells, slots⟩ { g with stack := rest } (.invokestatic index) mk argsL.toArray X₁ hg hsize hdg hW (X₁.named hnamed) (hpre vm₁ X₁.warmed) with ⟨v, B, X', hpost, hsteps⟩ | ⟨q, B, X', hpost, hsteps⟩
  · exact Or.inl ⟨v, vm₁, B, X₁.warmed, X', hpost, fun target h => hstep₁ _ fun acts => by rw [doInvoke_state]; exact hsteps.trans h⟩
  · exact Or.inr ⟨q, vm₁, B, X₁.warmed, X', hpost, hstep₁ _ fun acts => by rw [doInvoke_state]; exact hsteps⟩
end Calls
theorem vx_cls {s : State} {T : State} {vm₁ : Vm} {E : String} {k : ClassId} (hW : s.WarmedH vm₁) (h : (T.setVm vm₁).vm.findClass E = some k) : s.vm.findClass E = some k := by
  have h1 : vm₁.findClass E = some k := h
  rw [hW.alike.findClass] at h1
  exact h1
/-- the method's frame g, with q thrown over it -/
def vx_W (p : Program) (l : Launch) (e : Env) (R : Room) (s : State) (m : MethodId) (args : Array Value) (below : List Frame) (meth : Method) (c : Code) (H : Heap) (locs : List Loc) (cells slots : Nat) (Q : State → Prop) (g : JFrame) (q : Addr) : Prop :=
  ∀ T : State, T.heap = H → Stand p l e R s m args below meth c T locs cells slots → ∃ t, Steps p.tables e below ((T.setTop g).pushFrame (.throwing q)) t ∧ Q t
def vx_Run (p : Program) (l : Launch) (e : Env) (R : Room) (s : State) (m : MethodId) (args : Array Value) (below : List Frame) (meth : Method) (c : Code) (H : Heap) (locs : List Loc) (cells slots mc ms : Nat) (g : JFrame) (rest : List Value) (Qa : State → Outcome → State → Prop) (XC : String → State → State → Prop) (free : Addr → Prop) : Prop :=
  ∀ T : State, T.heap = H → Stand p l e R s m args below meth c T locs cells slots →
    (∃ (v : Option Value) (st₀ t T' : State) (L : List Loc), st₀.heap = H ∧ Stand p l e R s m args below meth c T' (locs ++ L) (cells + mc) (slots + ms) ∧ (∀ q ∈ L, free q.base) ∧ T'.heap = t.heap ∧ T'.vm = t.vm ∧ Qa st₀ (.returned v) t ∧
      Goes p e below T g T' { g with pc := g.pc + 3, stack := v.toList ++ rest }) ∨
    (∃ (q : Addr) (st₀ t T' : State) (L : List Loc) (E : String) (ce : Cell), st₀.heap = H ∧ Stand p l e R s m args below meth c T' (locs ++ L) (cells + mc) (slots + ms) ∧ (∀ z ∈ L, free z.base) ∧ T'.heap = t.heap ∧ T'.vm = t.vm ∧ XC E st₀ t ∧ t.heap[q]? = some ce ∧ ce.vm = .none ∧ s.vm.findClass E = some ce.cls ∧
      Steps p.tables e below (T.setTop g) ((T'.setTop { g with stack := rest }).pushFrame (.throwing q)))
def vx_X {S : Type} (px : S → Prop) (B : String → S → State → Prop) (A : Nat → Prop) : String → State → State → Prop := fun E st t => ∃ u : S, px u ∧ B E u t ∧ va_F A st t
section Runs
variable {p : Program} {l : Launch} {e : Env} {R : Room} {s : State} {m : MethodId} {args : Array Value} {below : List Frame} {meth : Method} {c : Code} {H : Heap} {locs : List Loc} {cells slots : Nat}
variable {y : MethodName} {bytes cc : ByteArray} {maxL nL mc ms n index : Nat} {ret : Option FieldType} {ws : List Cond} {rm : Room} {Pc : Array Value → State → Prop} {Qc : Array Value → State → Outcome → State → Prop} {XC : String → State → State → Prop} {free : Addr → Prop} {Ts : List Cond} {own C : String} {b : Addr} {As rest : List Value} {g : JFrame}
theorem vx_callBack (cb : CallB R s args own index y bytes maxL ret ws rm mc ms n) (hM : vx_Met l y ws rm Pc Qc XC mc ms free) (hbl : FrameBlind Pc) : vx_Back l R p e below s args y 3 8 (PreOf R mc ms Pc) (PostOf Qc mc ms free) (vx_Post XC mc ms free) := by
  obtain ⟨hrc, hrs, hfr, hlo, hws, hcw, -, hini, -⟩ := cb
  exact vx_back (bytes := bytes) (maxL := maxL) (ret := ret) hM hbl hrc hrs hfr hlo hws hcw (fun a' U hW => word_at hW (Or.inl (by first | rfl | simp [Cond.onTables, Cond.keeps, Cond.steady])) hini)
theorem vx_runV (S : CallFix p m c cc nL s args Ts own) (hM : vx_Met l y ws rm Pc Qc XC mc ms free) (cw : CallW R s args own C index y bytes maxL ret ws rm mc ms n) (hp : PreV s H C b Pc As)
    (hg : g.method = m) (hn : As.length = n) (hsize : g.locals.size = nL) (hstack : g.stack = As.reverse ++ .ref b :: rest) (hW : 2 * g.monitorRoom + (rest.map fun v => v.category).sum ≤ 8) (hdg : decode cc g.pc = .ok (.invokevirtual index, 3)) (hf : cells + mc ≤ R.cells ∧ slots + ms ≤ R.slots) :
    vx_Run p l e R s m args below meth c H locs cells slots mc ms g rest (Qc (Value.ref b :: As).toArray) XC free := by
  have hK : vx_Back l R p e below s args y 3 8 (PreOf R mc ms Pc) (PostOf Qc mc ms free) (vx_Post XC mc ms free) := vx_callBack cw.1 hM hp.1
  obtain ⟨⟨-, -, -, -, -, -, hcode, -, hy, hlen, hl⟩, hin, hse⟩ := cw
  obtain ⟨hx, hb, hml, ho, -⟩ := S
  obtain ⟨-, ⟨cellB, hcB, hoB, hclB⟩, hPc⟩ := hp
  intro T hT X
  rcases vx_callV X hx (C := C) (bytes := bytes) (maxL := maxL) (ret := ret) ho hl hin hse hcode hy hK (by rw [hT]; exact hcB) hoB hclB hg (hsize.trans hml.symm) (argsL := As) (rest := rest) (fun sig h => hn.trans (hlen sig h)) hstack hW (by rw [hb]; exact hdg)
    (fun vm₁ hW₁ => ⟨hf.1, hf.2, hPc (T.setVm vm₁) hT hW₁⟩) with ⟨v, vm₁, ⟨U', l2, c2, s2⟩, hW₁, X', ⟨g', mk, t, L, e1, e2, hq, h1, hL, h2, h3⟩, st⟩ | ⟨q, vm₁, ⟨U', l2, c2, s2⟩, hW₁, X', ⟨g', mk, t, L, E, ce, e1, e2, hq, hce, hcv, hcl, h1, hL, h2, h3⟩, st⟩
  · dsimp only [Pt.U, Pt.locs, Pt.cells, Pt.slots] at X' e1 e2 h1 h2 h3 st
    subst h1; subst h2; subst h3
    exact Or.inl ⟨v, (T.setVm vm₁).calling g' mk (Value.ref b :: As).toArray, t, U', L, hT, X', hL, e1, e2, hq, st⟩
  · dsimp only [Pt.U, Pt.locs, Pt.cells, Pt.slots] at X' e1 e2 h1 h2 h3 st hcl
    subst h1; subst h2; subst h3
    exact Or.inr ⟨q, (T.setVm vm₁).calling g' mk (Value.ref b :: As).toArray, t, U', L, E, ce, hT, X', hL, e1, e2, hq, hce, hcv, vx_cls hW₁ hcl, st⟩
theorem vx_runS (S : CallFix p m c cc nL s args Ts own) (hM : vx_Met l y ws rm Pc Qc XC mc ms free) (cw : CallB R s args own index y bytes maxL ret ws rm mc ms n ∧ (Cond.static y).before args s = true) (hp : PreS s H Pc As)
    (hg : g.method = m) (hn : As.length = n) (hsize : g.locals.size = nL) (hstack : g.stack = As.reverse ++ rest) (hW : 2 * g.monitorRoom + (rest.map fun v => v.category).sum ≤ 8) (hdg : decode cc g.pc = .ok (.invokestatic index, 3)) (hf : cells + mc ≤ R.cells ∧ slots + ms ≤ R.slots) :
    vx_Run p l e R s m args below meth c H locs cells slots mc ms g rest (Qc As.toArray) XC free := by
  have hK : vx_Back l R p e below s args y 3 8 (PreOf R mc ms Pc) (PostOf Qc mc ms free) (vx_Post XC mc ms free) := vx_callBack cw.1 hM hp.1
  obtain ⟨⟨-, -, -, -, -, -, hcode, hini, hy, hlen, hl⟩, hstt⟩ := cw
  obtain ⟨hx, hb, hml, ho, -⟩ := S
  intro T hT X
  rcases vx_callS X hx (bytes := bytes) (maxL := maxL) (ret := ret) ho hl hstt hini hcode hy hK hg (hsize.trans hml.symm) (argsL := As) (rest := rest) (fun sig h => hn.trans (hlen sig h)) hstack hW (by rw [hb]; exact hdg)
    (fun vm₁ hW₁ => ⟨hf.1, hf.2, hp.2 (T.setVm vm₁) hT hW₁⟩) with ⟨v, vm₁, ⟨U', l2, c2, s2⟩, hW₁, X', ⟨g', mk, t, L, e1, e2, hq, h1, hL, h2, h3⟩, st⟩ | ⟨q, vm₁, ⟨U', l2, c2, s2⟩, hW₁, X', ⟨g', mk, t, L, E, ce, e1, e2, hq, hce, hcv, hcl, h1, hL, h2, h3⟩, st⟩
  · dsimp only [Pt.U, Pt.locs, Pt.cells, Pt.slots] at X' e1 e2 h1 h2 h3 st
    subst h1; subst h2; subst h3
    exact Or.inl ⟨v, (T.setVm vm₁).calling g' mk As.toArray, t, U', L, hT, X', hL, e1, e2, hq, st⟩
  · dsimp only [Pt.U, Pt.locs, Pt.cells, Pt.slots] at X' e1 e2 h1 h2 h3 st hcl
    subst h1; subst h2; subst h3
    exact Or.inr ⟨q, (T.setVm vm₁).calling g' mk As.toArray, t, U', L, E, ce, hT, X', hL, e1, e2, hq, hce, hcv, vx_cls hW₁ hcl, st⟩
end Runs
section Rows
variable {p : Program} {l : Launch} {e : Env} {R : Room} {s : State} {m : MethodId} {args : Array Value} {below : List Frame} {meth : Method} {c : Code} {H : Heap} {locs : List Loc} {cells slots : Nat} {Q : State → Prop}
variable {mc ms : Nat} {free : Addr → Prop} {A0 A1 : Nat → Prop} {H0 : Heap} {a : Array Value} {pc : Nat} {ls : Array Slot} {st0 rest : List Value}
theorem vx_keep {st₀ t T' : State} {L : List Loc} (h0 : st₀.heap = H) (e1 : T'.heap = t.heap) (hS : va_S A0 H0 H locs) (hA : ∀ q, q < H.size → A1 q → A0 q) (hf : ∀ q, free q → A0 q) (hL : ∀ q ∈ L, free q.base) (hF : va_F A1 st₀ t) :
    H.size ≤ T'.heap.size ∧ (∀ q : Nat, q < H.size → ¬ A1 q → T'.heap[q]? = H[q]?) ∧ va_S A0 H0 T'.heap (locs ++ L) := by
  obtain ⟨hz, hk⟩ := hF
  rw [h0] at hz hk
  exact ⟨by rw [e1]; exact hz, fun q h1 h2 => by rw [e1]; exact hk q h1 h2,
    ⟨Nat.le_trans hS.1 (by rw [e1]; exact hz), fun q h1 h2 => by rw [e1, hk q (Nat.lt_of_lt_of_le h1 hS.1) (fun z => h2 (hA q (Nat.lt_of_lt_of_le h1 hS.1) z))]; exact hS.2.1 q h1 h2, fun q hq => by
      rcases List.mem_append.mp hq with h | h
      · exact hS.2.2 q h
      · exact hf _ (hL q h)⟩⟩
theorem vx_calli {S SX : Type} {post : Int32 → S → Prop} {px : SX → Prop} {B : S → State → Prop} {BX : String → SX → State → Prop} {AX : Nat → Prop} (hr : vx_Run p l e R s m args below meth c H locs cells slots mc ms (F0 m pc ls st0) rest (va_Qi post B A1 a) (vx_X px BX AX) free) (hS : va_S A0 H0 H locs) (hA : ∀ q, q < H.size → A1 q → A0 q) (hf : ∀ q, free q → A0 q) (hAX : ∀ q, q < H.size → AX q → A0 q)
    (kx : ∀ (E : String) (ce : Cell) (q9 : Addr) (u : SX) (t : State) (H1 : Heap) (locs1 : List Loc), t.heap = H1 → s.vm.Alike t.vm → px u → BX E u t → H.size ≤ H1.size → (∀ q : Nat, q < H.size → ¬ AX q → H1[q]? = H[q]?) → va_S A0 H0 H1 locs1 → H1[q9]? = some ce → ce.vm = .none → s.vm.findClass E = some ce.cls → vx_W p l e R s m args below meth c H1 locs1 (cells + mc) (slots + ms) Q (F0 m pc ls rest) q9)
    (kk : ∀ (r : Int32) (u : S) (t : State) (H1 : Heap) (locs1 : List Loc), t.heap = H1 → s.vm.Alike t.vm → post r u → B u t → H.size ≤ H1.size → (∀ q : Nat, q < H.size → ¬ A1 q → H1[q]? = H[q]?) → va_S A0 H0 H1 locs1 → W p l e R s m args below meth c H1 locs1 (cells + mc) (slots + ms) Q (F0 m (pc + 3) ls (.int r :: rest))) : W p l e R s m args below meth c H locs cells slots Q (F0 m pc ls st0) := by
  intro T hT X
  rcases hr T hT X with ⟨v, st₀, t, T', L, h0, X', hL, e1, e2, ⟨⟨r, u, hv, hp, hb⟩, hF⟩, st⟩ | ⟨q, st₀, t, T', L, E, ce, h0, X', hL, e1, e2, ⟨u, hp, hb, hF⟩, hce, hcv, hcl, st⟩
  · cases hv
    obtain ⟨k1, k2, k3⟩ := vx_keep h0 e1 hS hA hf hL hF
    obtain ⟨t2, a1, b1⟩ := kk r u t T'.heap (locs ++ L) e1.symm (by rw [← e2]; exact X'.warmed.alike) hp hb k1 k2 k3 T' rfl X'
    exact ⟨t2, st t2 a1, b1⟩
  · obtain ⟨k1, k2, k3⟩ := vx_keep h0 e1 hS hAX hf hL hF
    obtain ⟨t2, a1, b1⟩ := kx E ce q u t T'.heap (locs ++ L) e1.symm (by rw [← e2]; exact X'.warmed.alike) hp hb k1 k2 k3 (by rw [e1]; exact hce) hcv hcl T' rfl X'
    exact ⟨t2, st.trans a1, b1⟩
theorem vx_calll {S SX : Type} {post : Int64 → S → Prop} {px : SX → Prop} {B : S → State → Prop} {BX : String → SX → State → Prop} {AX : Nat → Prop} (hr : vx_Run p l e R s m args below meth c H locs cells slots mc ms (F0 m pc ls st0) rest (va_Ql post B A1 a) (vx_X px BX AX) free) (hS : va_S A0 H0 H locs) (hA : ∀ q, q < H.size → A1 q → A0 q) (hf : ∀ q, free q → A0 q) (hAX : ∀ q, q < H.size → AX q → A0 q)
    (kx : ∀ (E : String) (ce : Cell) (q9 : Addr) (u : SX) (t : State) (H1 : Heap) (locs1 : List Loc), t.heap = H1 → s.vm.Alike t.vm → px u → BX E u t → H.size ≤ H1.size → (∀ q : Nat, q < H.size → ¬ AX q → H1[q]? = H[q]?) → va_S A0 H0 H1 locs1 → H1[q9]? = some ce → ce.vm = .none → s.vm.findClass E = some ce.cls → vx_W p l e R s m args below meth c H1 locs1 (cells + mc) (slots + ms) Q (F0 m pc ls rest) q9)
    (kk : ∀ (r : Int64) (u : S) (t : State) (H1 : Heap) (locs1 : List Loc), t.heap = H1 → s.vm.Alike t.vm → post r u → B u t → H.size ≤ H1.size → (∀ q : Nat, q < H.size → ¬ A1 q → H1[q]? = H[q]?) → va_S A0 H0 H1 locs1 → W p l e R s m args below meth c H1 locs1 (cells + mc) (slots + ms) Q (F0 m (pc + 3) ls (.long r :: rest))) : W p l e R s m args below meth c H locs cells slots Q (F0 m pc ls st0) := by
  intro T hT X
  rcases hr T hT X with ⟨v, st₀, t, T', L, h0, X', hL, e1, e2, ⟨⟨r, u, hv, hp, hb⟩, hF⟩, st⟩ | ⟨q, st₀, t, T', L, E, ce, h0, X', hL, e1, e2, ⟨u, hp, hb, hF⟩, hce, hcv, hcl, st⟩
  · cases hv
    obtain ⟨k1, k2, k3⟩ := vx_keep h0 e1 hS hA hf hL hF
    obtain ⟨t2, a1, b1⟩ := kk r u t T'.heap (locs ++ L) e1.symm (by rw [← e2]; exact X'.warmed.alike) hp hb k1 k2 k3 T' rfl X'
    exact ⟨t2, st t2 a1, b1⟩
  · obtain ⟨k1, k2, k3⟩ := vx_keep h0 e1 hS hAX hf hL hF
    obtain ⟨t2, a1, b1⟩ := kx E ce q u t T'.heap (locs ++ L) e1.symm (by rw [← e2]; exact X'.warmed.alike) hp hb k1 k2 k3 (by rw [e1]; exact hce) hcv hcl T' rfl X'
    exact ⟨t2, st.trans a1, b1⟩
theorem vx_callf {S SX : Type} {post : UInt32 → S → Prop} {px : SX → Prop} {B : S → State → Prop} {BX : String → SX → State → Prop} {AX : Nat → Prop} (hr : vx_Run p l e R s m args below meth c H locs cells slots mc ms (F0 m pc ls st0) rest (va_Qf post B A1 a) (vx_X px BX AX) free) (hS : va_S A0 H0 H locs) (hA : ∀ q, q < H.size → A1 q → A0 q) (hf : ∀ q, free q → A0 q) (hAX : ∀ q, q < H.size → AX q → A0 q)
    (kx : ∀ (E : String) (ce : Cell) (q9 : Addr) (u : SX) (t : State) (H1 : Heap) (locs1 : List Loc), t.heap = H1 → s.vm.Alike t.vm → px u → BX E u t → H.size ≤ H1.size → (∀ q : Nat, q < H.size → ¬ AX q → H1[q]? = H[q]?) → va_S A0 H0 H1 locs1 → H1[q9]? = some ce → ce.vm = .none → s.vm.findClass E = some ce.cls → vx_W p l e R s m args below meth c H1 locs1 (cells + mc) (slots + ms) Q (F0 m pc ls rest) q9)
    (kk : ∀ (r : UInt32) (u : S) (t : State) (H1 : Heap) (locs1 : List Loc), t.heap = H1 → s.vm.Alike t.vm → post r u → B u t → H.size ≤ H1.size → (∀ q : Nat, q < H.size → ¬ A1 q → H1[q]? = H[q]?) → va_S A0 H0 H1 locs1 → W p l e R s m args below meth c H1 locs1 (cells + mc) (slots + ms) Q (F0 m (pc + 3) ls (.float r :: rest))) : W p l e R s m args below meth c H locs cells slots Q (F0 m pc ls st0) := by
  intro T hT X
  rcases hr T hT X with ⟨v, st₀, t, T', L, h0, X', hL, e1, e2, ⟨⟨r, u, hv, hp, hb⟩, hF⟩, st⟩ | ⟨q, st₀, t, T', L, E, ce, h0, X', hL, e1, e2, ⟨u, hp, hb, hF⟩, hce, hcv, hcl, st⟩
  · cases hv
    obtain ⟨k1, k2, k3⟩ := vx_keep h0 e1 hS hA hf hL hF
    obtain ⟨t2, a1, b1⟩ := kk r u t T'.heap (locs ++ L) e1.symm (by rw [← e2]; exact X'.warmed.alike) hp hb k1 k2 k3 T' rfl X'
    exact ⟨t2, st t2 a1, b1⟩
  · obtain ⟨k1, k2, k3⟩ := vx_keep h0 e1 hS hAX hf hL hF
    obtain ⟨t2, a1, b1⟩ := kx E ce q u t T'.heap (locs ++ L) e1.symm (by rw [← e2]; exact X'.warmed.alike) hp hb k1 k2 k3 (by rw [e1]; exact hce) hcv hcl T' rfl X'
    exact ⟨t2, st.trans a1, b1⟩
theorem vx_calld {S SX : Type} {post : UInt64 → S → Prop} {px : SX → Prop} {B : S → State → Prop} {BX : String → SX → State → Prop} {AX : Nat → Prop} (hr : vx_Run p l e R s m args below meth c H locs cells slots mc ms (F0 m pc ls st0) rest (va_Qd post B A1 a) (vx_X px BX AX) free) (hS : va_S A0 H0 H locs) (hA : ∀ q, q < H.size → A1 q → A0 q) (hf : ∀ q, free q → A0 q) (hAX : ∀ q, q < H.size → AX q → A0 q)
    (kx : ∀ (E : String) (ce : Cell) (q9 : Addr) (u : SX) (t : State) (H1 : Heap) (locs1 : List Loc), t.heap = H1 → s.vm.Alike t.vm → px u → BX E u t → H.size ≤ H1.size → (∀ q : Nat, q < H.size → ¬ AX q → H1[q]? = H[q]?) → va_S A0 H0 H1 locs1 → H1[q9]? = some ce → ce.vm = .none → s.vm.findClass E = some ce.cls → vx_W p l e R s m args below meth c H1 locs1 (cells + mc) (slots + ms) Q (F0 m pc ls rest) q9)
    (kk : ∀ (r : UInt64) (u : S) (t : State) (H1 : Heap) (locs1 : List Loc), t.heap = H1 → s.vm.Alike t.vm → post r u → B u t → H.size ≤ H1.size → (∀ q : Nat, q < H.size → ¬ A1 q → H1[q]? = H[q]?) → va_S A0 H0 H1 locs1 → W p l e R s m args below meth c H1 locs1 (cells + mc) (slots + ms) Q (F0 m (pc + 3) ls (.double r :: rest))) : W p l e R s m args below meth c H locs cells slots Q (F0 m pc ls st0) := by
  intro T hT X
  rcases hr T hT X with ⟨v, st₀, t, T', L, h0, X', hL, e1, e2, ⟨⟨r, u, hv, hp, hb⟩, hF⟩, st⟩ | ⟨q, st₀, t, T', L, E, ce, h0, X', hL, e1, e2, ⟨u, hp, hb, hF⟩, hce, hcv, hcl, st⟩
  · cases hv
    obtain ⟨k1, k2, k3⟩ := vx_keep h0 e1 hS hA hf hL hF
    obtain ⟨t2, a1, b1⟩ := kk r u t T'.heap (locs ++ L) e1.symm (by rw [← e2]; exact X'.warmed.alike) hp hb k1 k2 k3 T' rfl X'
    exact ⟨t2, st t2 a1, b1⟩
  · obtain ⟨k1, k2, k3⟩ := vx_keep h0 e1 hS hAX hf hL hF
    obtain ⟨t2, a1, b1⟩ := kx E ce q u t T'.heap (locs ++ L) e1.symm (by rw [← e2]; exact X'.warmed.alike) hp hb k1 k2 k3 (by rw [e1]; exact hce) hcv hcl T' rfl X'
    exact ⟨t2, st.trans a1, b1⟩
theorem vx_callv {S SX : Type} {post : S → Prop} {px : SX → Prop} {B : S → State → Prop} {BX : String → SX → State → Prop} {AX : Nat → Prop} (hr : vx_Run p l e R s m args below meth c H locs cells slots mc ms (F0 m pc ls st0) rest (va_Qv post B A1 a) (vx_X px BX AX) free) (hS : va_S A0 H0 H locs) (hA : ∀ q, q < H.size → A1 q → A0 q) (hf : ∀ q, free q → A0 q) (hAX : ∀ q, q < H.size → AX q → A0 q)
    (kx : ∀ (E : String) (ce : Cell) (q9 : Addr) (u : SX) (t : State) (H1 : Heap) (locs1 : List Loc), t.heap = H1 → s.vm.Alike t.vm → px u → BX E u t → H.size ≤ H1.size → (∀ q : Nat, q < H.size → ¬ AX q → H1[q]? = H[q]?) → va_S A0 H0 H1 locs1 → H1[q9]? = some ce → ce.vm = .none → s.vm.findClass E = some ce.cls → vx_W p l e R s m args below meth c H1 locs1 (cells + mc) (slots + ms) Q (F0 m pc ls rest) q9)
    (kk : ∀ (u : S) (t : State) (H1 : Heap) (locs1 : List Loc), t.heap = H1 → s.vm.Alike t.vm → post u → B u t → H.size ≤ H1.size → (∀ q : Nat, q < H.size → ¬ A1 q → H1[q]? = H[q]?) → va_S A0 H0 H1 locs1 → W p l e R s m args below meth c H1 locs1 (cells + mc) (slots + ms) Q (F0 m (pc + 3) ls (rest))) : W p l e R s m args below meth c H locs cells slots Q (F0 m pc ls st0) := by
  intro T hT X
  rcases hr T hT X with ⟨v, st₀, t, T', L, h0, X', hL, e1, e2, ⟨⟨u, hv, hp, hb⟩, hF⟩, st⟩ | ⟨q, st₀, t, T', L, E, ce, h0, X', hL, e1, e2, ⟨u, hp, hb, hF⟩, hce, hcv, hcl, st⟩
  · cases hv
    obtain ⟨k1, k2, k3⟩ := vx_keep h0 e1 hS hA hf hL hF
    obtain ⟨t2, a1, b1⟩ := kk u t T'.heap (locs ++ L) e1.symm (by rw [← e2]; exact X'.warmed.alike) hp hb k1 k2 k3 T' rfl X'
    exact ⟨t2, st t2 a1, b1⟩
  · obtain ⟨k1, k2, k3⟩ := vx_keep h0 e1 hS hAX hf hL hF
    obtain ⟨t2, a1, b1⟩ := kx E ce q u t T'.heap (locs ++ L) e1.symm (by rw [← e2]; exact X'.warmed.alike) hp hb k1 k2 k3 (by rw [e1]; exact hce) hcv hcl T' rfl X'
    exact ⟨t2, st.trans a1, b1⟩
/-- caught by the row x of this method's table; the rows ahead don't take it -/
theorem vx_catch {own name : String} {E : String} {ce : Cell} {q : Addr} (hown : s.vm.findClass own = some m.cls) (pre : List ExceptionTableEntry) (x : ExceptionTableEntry) (suf : List ExceptionTableEntry) (hsplit : c.exceptionTable.toList = pre ++ x :: suf)
    (hpass : ∀ z ∈ pre, covers z pc = false ∨ (z.catchType ≠ 0 ∧ ∃ nm : String, (Cond.classLink own z.catchType nm).before args s = true ∧ va_Nc E nm s)) (hx : covers x pc = true) (h0 : x.catchType ≠ 0)
    (hlink : (Cond.classLink own x.catchType name).before args s = true) (hcast : (Cond.castable E name).before args s = true) (hcell : H[q]? = some ce) (hv : ce.vm = .none) (hcl : s.vm.findClass E = some ce.cls)
    (kk : W p l e R s m args below meth c H locs cells slots Q (F0 m x.handlerPc ls [.ref q])) : vx_W p l e R s m args below meth c H locs cells slots Q (F0 m pc ls rest) q := by
  intro T hT X
  have hpl : e.platform.magicAccessors = ({} : Platform).magicAccessors := by rw [X.admits.platform]
  obtain ⟨c3, c4, hc3, hc4, hasg⟩ := Cond.castable_spec hcast
  cases Option.some.inj (hc3.symm.trans hcl)
  obtain ⟨c5, hc5, hcl5⟩ := Cond.classLink_spec hown hlink e.platform hpl
  cases Option.some.inj (hc4.symm.trans hc5)
  obtain ⟨vm', X', st⟩ := X.thenCaughtThrough q (g := F0 m pc ls rest) rfl (Steps.refl _) (by rw [hT]; exact hcell) (by rw [hv]; rfl) (by obtain ⟨k9, h9, -⟩ := Vm.findClass_spec hcl; exact ⟨k9, h9⟩) pre x suf hsplit
    (fun z hz => by
      rcases hpass z hz with h | ⟨hz0, nm, hl1, hn1⟩
      · exact Or.inl h
      · obtain ⟨c6, hc6, hcl6⟩ := Cond.classLink_spec hown hl1 e.platform hpl
        obtain ⟨a8, b8, h1, h2, h3⟩ := hn1
        cases Option.some.inj (h1.symm.trans hcl)
        cases Option.some.inj (h2.symm.trans hc6)
        exact Or.inr ⟨hz0, _, hcl6, h3⟩) hx (Or.inr ⟨h0, c4, hcl5, hasg⟩)
  obtain ⟨t, a1, b1⟩ := kk (T.setVm vm') hT X'
  exact ⟨t, st.trans a1, b1⟩
end Rows
section Ends
variable {p : Program} {l : Launch} {e : Env} {R : Room} {s : State} {m : MethodId} {args : Array Value} {below : List Frame} {meth : Method} {c : Code} {H : Heap} {locs : List Loc} {cells slots : Nat} {Q : State → Prop}
variable {mc ms : Nat} {free : Addr → Prop} {A0 A1 : Nat → Prop} {H0 : Heap} {a : Array Value} {ls : Array Slot} {st0 rest : List Value}
variable {Qc : Array Value → State → Outcome → State → Prop} {XC : String → State → State → Prop}
/-- what a body that may throw owes at its end -/
def vx_MQ (below : List Frame) (Qc : Array Value → State → Outcome → State → Prop) (XC : String → State → State → Prop) (a : Array Value) (s : State) (mc ms : Nat) (free : Addr → Prop) : State → Prop := fun t =>
  ∃ o, t.status = .running ∧ Ended t below o ∧ vx_Q Qc XC mc ms free a s o t
theorem vx_ret {g : JFrame} {mc ms : Nat} (k : W p l e R s m args below meth c H locs cells slots (MQ below Qc args s mc ms free) g) : W p l e R s m args below meth c H locs cells slots (vx_MQ below Qc XC args s mc ms free) g := by
  intro T hT X
  obtain ⟨t, a1, o, b1, b2, b3, b4⟩ := k T hT X
  exact ⟨t, a1, o, b1, b2, Or.inl ⟨b3, b4⟩⟩
/-- not caught here: it goes on to the caller -/
theorem vx_widen {g : JFrame} {q : Addr} {k n : Nat} (h1 : cells ≤ k) (h2 : slots ≤ n) (kk : vx_W p l e R s m args below meth c H locs k n Q g q) : vx_W p l e R s m args below meth c H locs cells slots Q g q := fun T hT X => kk T hT (stand_widen X h1 h2)
theorem vx_out {pc : Nat} {E : String} {ce : Cell} {q : Addr} {mc ms : Nat} (hout : ∀ x ∈ c.exceptionTable.toList, covers x pc = false) (hlocks : meth.locks = false) (hcell : H[q]? = some ce) (hv : ce.vm = .none) (hcl : s.vm.findClass E = some ce.cls)
    (hx : ∀ t : State, t.heap = H → s.vm.Alike t.vm → XC E s t) (hf : ∀ z ∈ locs, free z.base) (hc : cells ≤ mc) (hs : slots ≤ ms) :
    vx_W p l e R s m args below meth c H locs cells slots (vx_MQ below Qc XC args s mc ms free) (F0 m pc ls rest) q := by
  intro T hT X
  obtain ⟨st1, hrun, hend, hW, hsm⟩ := X.leaveThrown q (g := F0 m pc ls rest) rfl rfl rfl hout hlocks
  have hcell9 : (T.setFrames (.throwing q :: below)).heap[q]? = some ce := by
    show T.heap[q]? = some ce
    rw [hT]; exact hcell
  exact ⟨_, st1, .threw q, hrun, hend, Or.inr ⟨q, rfl, E, ce, locs, hx _ hT hW.alike, hcell9, hv, hcl, hW, hsm.mono hc hs, hf⟩⟩
theorem vx_frame {U : State} {k n : Nat} (h : s.sameButNew ({ U with vm := s.vm } : State) locs k n) : s.heap.size ≤ U.heap.size ∧ ∀ q : Nat, q < s.heap.size → (∀ z ∈ locs, z.base ≠ q) → U.heap[q]? = s.heap[q]? := by
  obtain ⟨-, h2, -, -, -, h6⟩ := h
  refine ⟨h2, fun q hq hz => ?_⟩
  obtain ⟨c9, e1, e2, e3, e4⟩ := h6 q _ (Array.getElem?_eq_getElem hq)
  have hs : c9.slots = (s.heap[q]).slots := Array.ext_getElem? fun i => e4 i fun hm => hz _ hm rfl
  have h9 : c9 = s.heap[q] := by
    rw [hs] at e2
    exact e2
  have e5 : U.heap[q]? = some c9 := e1
  rw [e5, h9, Array.getElem?_eq_getElem hq]
/-- the words of a throw but the four that speak of the heap -/
def vx_no (w : Cond) : Bool := decide (w ≠ .isRef (.static Bundle.tN "UNASSIGNED_STACK" Bundle.steD)) && decide (w ≠ .isRef (.static Bundle.tN "SUPPRESSED_SENTINEL" Bundle.listD)) && decide (w ≠ .laysStatic Bundle.tN "UNASSIGNED_STACK" Bundle.steD) && decide (w ≠ .laysStatic Bundle.tN "SUPPRESSED_SENTINEL" Bundle.listD)
def vx_at0 (own : String) (ic : Nat) (X : String) (names : List String) : List Cond := (Bundle.ownAtoms0 own ic X names).filter vx_no
def vx_atS (own : String) (ic : Nat) (X : String) (names : List String) : List Cond := (Bundle.ownAtoms own ic X names).filter vx_no
/-- a word that the tables alone decide, or a good one -/
def vx_ot (w : Cond) : Bool := w.onTables || goodWord w
theorem vx_ot_at {args a' : Array Value} {s U : State} {w : Cond} (hW : s.WarmedH U.vm) (hvm : s.vm = U.vm) (hg : vx_ot w = true) (h : w.before args s = true) : w.before a' U = true := by
  simp only [vx_ot, Bool.or_eq_true] at hg
  rcases hg with hg | hg
  · exact va_tabs hg hvm h
  · exact word_at hW (good_of_word hg) h
/-- a list's words: the good ones out of the method's own list, the others by premises of their own -/
theorem vx_hat {args : Array Value} {s : State} {L B : List Cond} (h1 : ∀ w ∈ L.filter goodWord, w.before args s = true) (h2 : ∀ w ∈ L.filter (fun w => !goodWord w), w ∈ B) (h3 : ∀ w ∈ B, w.before args s = true) : ∀ w ∈ L, w.before args s = true := by
  intro w hw
  by_cases g : goodWord w = true
  · exact h1 w (List.mem_filter.mpr ⟨hw, g⟩)
  · refine h3 w (h2 w (List.mem_filter.mpr ⟨hw, ?_⟩))
    show (!goodWord w) = true
    cases hgw : goodWord w
    · rfl
    · exact absurd hgw g
theorem vx_c {args : Array Value} {s : State} {w : Cond} {B : List Cond} (h : w.before args s = true) (t : ∀ w ∈ B, w.before args s = true) : ∀ w' ∈ w :: B, w'.before args s = true := fun w' h' => (List.mem_cons.mp h').elim (fun e => by rw [e]; exact h) (t w')
theorem vx_n {args : Array Value} {s : State} : ∀ w ∈ ([] : List Cond), w.before args s = true := fun _ h => nomatch h
theorem vx_own {args : Array Value} {s : State} {L : List Cond} (h1 : ∀ w ∈ L.filter vx_no, w.before args s = true)
    (hU : (Cond.isRef (.static Bundle.tN "UNASSIGNED_STACK" Bundle.steD)).before args s = true) (hN : (Cond.isRef (.static Bundle.tN "SUPPRESSED_SENTINEL" Bundle.listD)).before args s = true)
    (lU : (Cond.laysStatic Bundle.tN "UNASSIGNED_STACK" Bundle.steD).before args s = true) (lN : (Cond.laysStatic Bundle.tN "SUPPRESSED_SENTINEL" Bundle.listD).before args s = true) : ∀ w ∈ L, w.before args s = true := by
  intro w hw
  by_cases e1 : w = .isRef (.static Bundle.tN "UNASSIGNED_STACK" Bundle.steD)
  · rw [e1]; exact hU
  · by_cases e2 : w = .isRef (.static Bundle.tN "SUPPRESSED_SENTINEL" Bundle.listD)
    · rw [e2]; exact hN
    · by_cases e3 : w = .laysStatic Bundle.tN "UNASSIGNED_STACK" Bundle.steD
      · rw [e3]; exact lU
      · by_cases e4 : w = .laysStatic Bundle.tN "SUPPRESSED_SENTINEL" Bundle.listD
        · rw [e4]; exact lN
        · exact h1 w (List.mem_filter.mpr ⟨hw, by unfold vx_no; rw [decide_eq_true e1, decide_eq_true e2, decide_eq_true e3, decide_eq_true e4]; rfl⟩)
/-- where a static field lies, its class's statics cell in H -/
def vx_L (C n d : String) (A : Nat → Prop) (U : State) (H : Heap) : Prop := ∃ (c : ClassId) (k : Class) (i : Nat) (f : Field) (a : Nat) (cell : Cell), U.vm.findClass C = some c ∧ U.fieldFound? C n d = some (c, k, i, f) ∧ f.isStatic = true ∧ k.statics = some a ∧ H[a]? = some cell ∧ cell.vm.isStatics = true ∧ cell.cls = c ∧ f.slot < cell.slots.size ∧ k.staticTypes[f.slot]? = some f.type ∧ ¬ A a
theorem vx_L.moved {C n d : String} {A : Nat → Prop} {u U : State} {H : Heap} (hvm : u.vm.Alike U.vm) (h : vx_L C n d A u H) : vx_L C n d A U H := by
  obtain ⟨c, k, i, f, a, cell, h1, h2, h3, h4, h5, h6, h7, h8, h9, h10⟩ := h
  obtain ⟨k', hi', he⟩ := State.fieldFound?_setVm hvm h2
  exact ⟨c, k', i, f, a, cell, by rw [hvm.findClass]; exact h1, hi', h3, by rw [he]; exact h4, h5, h6, h7, h8, by rw [he]; exact h9, h10⟩
theorem vx_L.kept {C n d : String} {A : Nat → Prop} {U : State} {H H1 : Heap} (h : vx_L C n d A U H) (hq : ∀ a : Nat, a < H.size → ¬ A a → H1[a]? = H[a]?) : vx_L C n d A U H1 := by
  obtain ⟨c, k, i, f, a, cell, h1, h2, h3, h4, h5, h6, h7, h8, h9, h10⟩ := h
  exact ⟨c, k, i, f, a, cell, h1, h2, h3, h4, by rw [hq a (Array.getElem?_eq_some_iff.mp h5).1 h10]; exact h5, h6, h7, h8, h9, h10⟩
theorem vx_L.narrow {C n d : String} {A B : Nat → Prop} {U : State} {H : Heap} (h : vx_L C n d A U H) (hAB : ∀ q, B q → A q) : vx_L C n d B U H := by
  obtain ⟨c, k, i, f, a, cell, h1, h2, h3, h4, h5, h6, h7, h8, h9, h10⟩ := h
  exact ⟨c, k, i, f, a, cell, h1, h2, h3, h4, h5, h6, h7, h8, h9, fun z => h10 (hAB _ z)⟩
theorem vx_L.word {C n d : String} {A : Nat → Prop} {s : State} {args : Array Value} (h : vx_L C n d A s s.heap) : (Cond.laysStatic C n d).before args s = true := by
  obtain ⟨c, k, i, f, a, cell, h1, h2, h3, h4, h5, h6, h7, h8, h9, -⟩ := h
  show (Cond.laysStatic C n d).holds args s none s [] = true
  exact Cond.laysStatic_of h1 h2 h3 h4 h5 h6 h7 h8 h9
/-- .. and what it holds: null or some reference -/
def vx_Zq (C n d : String) (A : Nat → Prop) (U : State) (H : Heap) : Prop := va_Zq C n d A U H ∧ vx_L C n d A U H
theorem vx_Zq.moved {C n d : String} {A : Nat → Prop} {u U : State} {H : Heap} (hvm : u.vm.Alike U.vm) (h : vx_Zq C n d A u H) : vx_Zq C n d A U H := ⟨va_Zq.moved hvm h.1, vx_L.moved hvm h.2⟩
theorem vx_Zq.kept {C n d : String} {A : Nat → Prop} {U : State} {H H1 : Heap} (h : vx_Zq C n d A U H) (hq : ∀ a : Nat, a < H.size → ¬ A a → H1[a]? = H[a]?) : vx_Zq C n d A U H1 := ⟨va_Zq.kept h.1 hq, vx_L.kept h.2 hq⟩
theorem vx_Zq.narrow {C n d : String} {A B : Nat → Prop} {U : State} {H : Heap} (h : vx_Zq C n d A U H) (hAB : ∀ q, B q → A q) : vx_Zq C n d B U H := ⟨va_Zq.narrow h.1 hAB, vx_L.narrow h.2 hAB⟩
theorem vx_Zqof {args : Array Value} {s : State} {C n d : String} {A : Nat → Prop} (hl : (Cond.laysStatic C n d).before args s = true) (hini : (Cond.initialized C).before args s = true) (h : (Cond.isRef (.static C n d)).before args s = true) (hA : ∀ a : Nat, a < s.heap.size → ¬ A a) : vx_Zq C n d A s s.heap := by
  refine ⟨va_Zqof hl hini h hA, ?_⟩
  obtain ⟨c, k, i, f, a, cell, h1, h2, h3, h4, h5, h6, h7, h8, h9⟩ := Cond.laysStatic_spec hl
  exact ⟨c, k, i, f, a, cell, h1, h2, h3, h4, h5, h6, h7, h8, h9, hA a (Array.getElem?_eq_some_iff.mp h5).1⟩
theorem vx_isRef {C n d : String} {v : Value} {A : Nat → Prop} {s : State} {args : Array Value} (h : va_Z C n d v A s s.heap) (hv : v.isRef = true) : (Cond.isRef (.static C n d)).before args s = true := by
  obtain ⟨cf, kf, fi, f, a, cell, h1, h2, h3, h4, h5, h6, h7, -⟩ := h
  have he : (Term.static C n d).eval args s none [] s = some v := by
    simp [Term.eval, State.fieldNamed?, h1, h2, h4, h5, h6, h7]
  simp only [Cond.before, Cond.holds, Cond.value, he]
  cases v <;> simp_all [Value.isRef]
theorem vx_isRefq {C n d : String} {A : Nat → Prop} {s : State} {args : Array Value} (h : va_Zq C n d A s s.heap) : (Cond.isRef (.static C n d)).before args s = true := by
  rcases h with h | ⟨t, h⟩
  · exact vx_isRef h rfl
  · exact vx_isRef h rfl
/-- the same frame, seen from here: as if the method were called anew in this heap -/
theorem vx_rebase {T : State} (X : Stand p l e R s m args below meth c T locs cells slots) {R' : Room} (hf : R'.frames ≤ R.frames) (hl : R'.locals ≤ R.locals) (hc : cells + R'.cells ≤ R.cells) (hs : slots + R'.slots ≤ R.slots) :
    Stand p l e R' ((T.setVm s.vm).setFrames (.invoking m args :: below)) m args below meth c T [] 0 0 := by
  have htop : (T.setVm s.vm).topJava?.isSome := X.here.top
  have hF : ((T.setVm s.vm).setFrames (.invoking m args :: below)).frames = .invoking m args :: below := State.frames_setFrames _ (State.cur_lt_of_top htop)
  obtain ⟨g₀, hg0⟩ := Option.isSome_iff_exists.mp htop
  obtain ⟨r, hr⟩ := State.topJava?_eq_some.mp hg0
  have hl9 : e.platform.stackLimits (T.setVm s.vm).me = e.platform.stackLimits s.me := X.limits
  have hb9 : (T.setVm s.vm).me.stackBytes = s.me.stackBytes := X.bytes
  refine ⟨X.admits, X.cas, X.clock, hF, ?_, X.hears, X.method, X.code, X.here, X.tail, X.warmed, ?_, ?_, ?_⟩
  · have h := X.room
    have hU : ((T.setVm s.vm).setFrames (.invoking m args :: below)).localsInUse = s.localsInUse := by
      rw [State.localsInUse_invoking hF (meth := meth) (c := c) X.method X.code, State.localsInUse_invoking X.frames X.method X.code]
    simp only [State.hasRoom, Bool.and_eq_true, decide_eq_true_eq] at h ⊢
    obtain ⟨⟨⟨⟨h1, h2, h3, h4, h5, h6⟩, h7⟩, h8⟩, h9⟩ := h
    rw [X.frames, List.length_cons] at h2 h3
    have q1 := X.heapSize
    have q2 := X.used
    simp only [hF, hU, List.length_cons, State.stackLimits_setFrames, State.stackBytes_setFrames, hl9, hb9]
    refine ⟨⟨⟨⟨by omega, by omega, by omega, by omega, by omega, h6⟩, ?_⟩, ?_⟩, X.book⟩
    · show T.heap.size + R'.cells ≤ e.platform.maxCells
      omega
    · show T.slotsUsed + R'.slots ≤ e.platform.maxSlots
      omega
  · rw [State.stackLimits_setFrames]; rfl
  · rw [State.stackBytes_setFrames]; rfl
  · refine ⟨?_, Nat.le_refl _, Nat.le_refl _, ?_, ?_, fun a c9 h9 => ⟨c9, h9, rfl, rfl, fun _ _ => rfl⟩⟩
    · obtain ⟨t, ht, -⟩ := State.frames_cons hr
      show T.setVm s.vm = { ((T.setVm s.vm).setFrames (.invoking m args :: below)).setFrames (T.setVm s.vm).frames with heap := T.heap, slotsUsed := T.slotsUsed }
      rw [State.setFrames_setFrames, State.setFrames_self ht]
      rfl
    · show T.slotsUsed = T.slotsUsed + ((T.heap.toList.drop T.heap.size).map (·.slots.size)).sum
      rw [List.drop_eq_nil_of_le (Nat.le_of_eq Array.length_toList)]
      rfl
    · show ((T.heap.toList.drop T.heap.size).map (·.slots.size)).sum ≤ 0
      rw [List.drop_eq_nil_of_le (Nat.le_of_eq Array.length_toList)]
      exact Nat.le_refl _
/-- 'throw new E()': new; dup; invokespecial; athrow -/
theorem vx_throw0 {cc : ByteArray} {pc : Nat} (hexec : p.tables.exec = Jvm.exec) (hb : c.code = cc) (hl : l.stackTraces = false) {own cls : String} {names : List String} {ik ic mc ms : Nat} {A : Nat → Prop}
    (hown : s.vm.findClass own = some m.cls) (hcls : Bundle.fit cls = true) (hnames : ∀ n ∈ names, Bundle.fit n = true)
    (hk : (Cond.classLink own ik cls).before args s = true) (hini : (Cond.initialized cls).before args s = true) (hat : ∀ w ∈ vx_at0 own ic cls names, w.before args s = true)
    (hgood : ∀ w ∈ Cond.classLink own ik cls :: Cond.initialized cls :: vx_at0 own ic cls names, vx_ot w = true)
    (hU : vx_Zq Bundle.tN "UNASSIGNED_STACK" Bundle.steD A s s.heap) (hN : vx_Zq Bundle.tN "SUPPRESSED_SENTINEL" Bundle.listD A s s.heap) (hS : va_S A s.heap H locs) (hsize : ls.size = c.maxLocals)
    (d0 : decode cc pc = .ok (.new ik, 3)) (d3 : decode cc (pc + 3) = .ok (.dup, 1)) (d4 : decode cc (pc + 4) = .ok (.invokespecial ic, 3)) (d7 : decode cc (pc + 7) = .ok (.athrow, 1))
    (hout : ∀ x ∈ c.exceptionTable.toList, covers x (pc + 7) = false)
    (hRframes : names.length + 3 < R.frames) (hRlocals : (rest.map fun v => v.category).sum + (13 * (names.length + 1) + 42) ≤ R.locals) (hRcells : cells + 1 ≤ R.cells) (hRslots : slots + 6 ≤ R.slots) (hlocks : meth.locks = false)
    (hx : ∀ t : State, s.vm.Alike t.vm → H.size ≤ t.heap.size → (∀ q : Nat, q < H.size → t.heap[q]? = H[q]?) → XC cls s t)
    (hf : ∀ z ∈ locs, free z.base) (hc : cells + 1 ≤ mc) (hs : slots + 6 ≤ ms) :
    W p l e R s m args below meth c H locs cells slots (vx_MQ below Qc XC args s mc ms free) (F0 m pc ls rest) := by
  intro T hT X
  have htr : e.platform.stackTraces = false := (show e.platform.stackTraces = l.stackTraces by rw [X.admits.platform]).trans hl
  have Y := vx_rebase X (R' := { frames := R.frames, locals := R.locals, cells := 1, slots := 6 }) (Nat.le_refl _) (Nat.le_refl _) hRcells hRslots
  obtain ⟨s', hA⟩ : ∃ z, z = (T.setVm s.vm).setFrames (.invoking m args :: below) := ⟨_, rfl⟩
  rw [← hA] at Y
  have hvm : s'.vm = s.vm := by rw [hA]; rfl
  have hhp : s'.heap = H := by rw [hA]; exact hT
  have hW0 : s.WarmedH s'.vm := by rw [hvm]; exact State.WarmedH.refl s
  have hat' : ∀ w ∈ vx_at0 own ic cls names, w.before args s' = true := fun w hw => vx_ot_at hW0 hvm.symm (hgood w (List.mem_cons_of_mem _ (List.mem_cons_of_mem _ hw))) (hat w hw)
  have hk' : (Cond.classLink own ik cls).before args s' = true := vx_ot_at hW0 hvm.symm (hgood _ List.mem_cons_self) hk
  have hini' : (Cond.initialized cls).before args s' = true := vx_ot_at hW0 hvm.symm (hgood _ (List.mem_cons_of_mem _ List.mem_cons_self)) hini
  have hU' : vx_Zq Bundle.tN "UNASSIGNED_STACK" Bundle.steD A s' s'.heap := by rw [hhp]; exact vx_Zq.moved hW0.alike (hU.kept hS.2.1)
  have hN' : vx_Zq Bundle.tN "SUPPRESSED_SENTINEL" Bundle.listD A s' s'.heap := by rw [hhp]; exact vx_Zq.moved hW0.alike (hN.kept hS.2.1)
  have h : ∀ w ∈ Bundle.ownAtoms0 own ic cls names, w.before args s' = true := vx_own hat' (vx_isRefq hU'.1) (vx_isRefq hN'.1) hU'.2.word hN'.2.word
  have hown' : s'.vm.findClass own = some m.cls := by rw [hvm]; exact hown
  have hins : (Cond.instantiable cls 6).before args s' = true := h _ (by simp [Bundle.ownAtoms0])
  obtain ⟨vm₁, cX, kX, hfX, hkX, -, -, X₁, st1⟩ := Y.newCold hexec (own := own) (C := cls) (index := ik) (n := 6) hown' hk' hins hini'
    (g := F0 m pc ls rest) rfl (by rw [hb]; exact d0) (Nat.le_refl _) (Nat.le_refl _)
  generalize hT1 : (T.setVm vm₁).pushCell { cls := cX, slots := kX.instanceTypes.map defaultValue, vm := .none } = T1 at X₁ st1
  have hcat : (Value.ref T.heap.size).category = 1 := rfl
  have hcellA : T1.heap[T.heap.size]? = some (freshCell cX kX) := by rw [← hT1]; exact State.heap_pushCell_size _ _
  have d3' : decode c.code (pc + 3) = .ok (.dup, 1) := by rw [hb]; exact d3
  obtain ⟨U, hsteps, hrun, hend, hW, hsame, ce, hce, hO⟩ := X₁.ctorThrow0 hexec htr (own := own) (cls := cls) (names := names) (ic := ic) hown' hcls hnames h (fun x hx => nomatch hx) hfX hkX hcellA (by rw [hhp, hT]; exact Nat.le_refl _)
    (g := { method := m, pc := pc + 4, locals := ls, stack := .ref T.heap.size :: .ref T.heap.size :: rest, locked := none }) rfl hsize rfl rfl (rest := rest) rfl
    (by rw [hb]; exact d4) (by rw [hb]; exact d7) hout hRframes (by simp only [List.map_cons, List.sum_cons, hcat]; omega) hlocks
  obtain ⟨f1, f2⟩ := vx_frame hsame
  rw [hhp] at f1 f2
  have hWs : s.WarmedH U.vm := State.WarmedH.trans hW0 hW
  have hcl : s.vm.findClass cls = some ce.cls := by
    have h9 := hO.cls
    rw [hvm] at h9
    exact h9
  have hall : s.sameButNew ({ U with vm := s.vm } : State) locs mc ms := by
    subst hA
    obtain ⟨e1, e2⟩ := hsame
    rw [State.setFrames_setFrames] at e1
    have h2 : (T.setVm s.vm).sameButNew ({ U with vm := s.vm } : State) [] (0 + 1) (0 + 6) := ⟨e1, e2⟩
    have h3 := X.same.trans h2
    rw [List.append_nil] at h3
    exact h3.mono hc hs
  refine ⟨U, ?_, .threw T.heap.size, hrun, hend, Or.inr ⟨T.heap.size, rfl, cls, ce, locs, hx U hWs.alike f1 (fun q hq => f2 q hq (fun z hz => nomatch hz)), hce, hO.vm, hcl, hWs, hall, hf⟩⟩
  refine st1 _ ?_
  show Steps p.tables e below (T1.setTop { method := m, pc := pc + 3, locals := ls, stack := .ref T.heap.size :: rest, locked := none }) _
  jvm_step X₁.here [X₁.here.top, hexec, d3', Value.category]
  exact hsteps
/-- 'throw new E("text")': new; dup; ldc; invokespecial; athrow -/
theorem vx_throwS {cc : ByteArray} {pc : Nat} (hexec : p.tables.exec = Jvm.exec) (hb : c.code = cc) (hl : l.stackTraces = false) {own cls text : String} {names : List String} {ik is ic mc ms sa : Nat} {A : Nat → Prop}
    (hown : s.vm.findClass own = some m.cls) (hcls : Bundle.fit cls = true) (hnames : ∀ n ∈ names, Bundle.fit n = true)
    (hk : (Cond.classLink own ik cls).before args s = true) (hini : (Cond.initialized cls).before args s = true) (hstr : vk_R own is text sa s) (hat : ∀ w ∈ vx_atS own ic cls names, w.before args s = true)
    (hgood : ∀ w ∈ Cond.classLink own ik cls :: Cond.initialized cls :: vx_atS own ic cls names, vx_ot w = true)
    (hU : vx_Zq Bundle.tN "UNASSIGNED_STACK" Bundle.steD A s s.heap) (hN : vx_Zq Bundle.tN "SUPPRESSED_SENTINEL" Bundle.listD A s s.heap) (hS : va_S A s.heap H locs) (hsize : ls.size = c.maxLocals)
    (d0 : decode cc pc = .ok (.new ik, 3)) (d3 : decode cc (pc + 3) = .ok (.dup, 1)) (d4 : decode cc (pc + 4) = .ok (.ldc is, 2)) (d6 : decode cc (pc + 6) = .ok (.invokespecial ic, 3)) (d9 : decode cc (pc + 9) = .ok (.athrow, 1))
    (hout : ∀ x ∈ c.exceptionTable.toList, covers x (pc + 9) = false)
    (hRframes : names.length + 3 < R.frames) (hRlocals : (rest.map fun v => v.category).sum + (13 * (names.length + 1) + 43) ≤ R.locals) (hRcells : cells + 1 ≤ R.cells) (hRslots : slots + 6 ≤ R.slots) (hlocks : meth.locks = false)
    (hx : ∀ t : State, s.vm.Alike t.vm → H.size ≤ t.heap.size → (∀ q : Nat, q < H.size → t.heap[q]? = H[q]?) → XC cls s t)
    (hf : ∀ z ∈ locs, free z.base) (hc : cells + 1 ≤ mc) (hs : slots + 6 ≤ ms) :
    W p l e R s m args below meth c H locs cells slots (vx_MQ below Qc XC args s mc ms free) (F0 m pc ls rest) := by
  intro T hT X
  have htr : e.platform.stackTraces = false := (show e.platform.stackTraces = l.stackTraces by rw [X.admits.platform]).trans hl
  have Y := vx_rebase X (R' := { frames := R.frames, locals := R.locals, cells := 1, slots := 6 }) (Nat.le_refl _) (Nat.le_refl _) hRcells hRslots
  obtain ⟨s', hA⟩ : ∃ z, z = (T.setVm s.vm).setFrames (.invoking m args :: below) := ⟨_, rfl⟩
  rw [← hA] at Y
  have hvm : s'.vm = s.vm := by rw [hA]; rfl
  have hhp : s'.heap = H := by rw [hA]; exact hT
  have hW0 : s.WarmedH s'.vm := by rw [hvm]; exact State.WarmedH.refl s
  have hat' : ∀ w ∈ vx_atS own ic cls names, w.before args s' = true := fun w hw => vx_ot_at hW0 hvm.symm (hgood w (List.mem_cons_of_mem _ (List.mem_cons_of_mem _ hw))) (hat w hw)
  have hk' : (Cond.classLink own ik cls).before args s' = true := vx_ot_at hW0 hvm.symm (hgood _ List.mem_cons_self) hk
  have hini' : (Cond.initialized cls).before args s' = true := vx_ot_at hW0 hvm.symm (hgood _ (List.mem_cons_of_mem _ List.mem_cons_self)) hini
  have hU' : vx_Zq Bundle.tN "UNASSIGNED_STACK" Bundle.steD A s' s'.heap := by rw [hhp]; exact vx_Zq.moved hW0.alike (hU.kept hS.2.1)
  have hN' : vx_Zq Bundle.tN "SUPPRESSED_SENTINEL" Bundle.listD A s' s'.heap := by rw [hhp]; exact vx_Zq.moved hW0.alike (hN.kept hS.2.1)
  have h : ∀ w ∈ Bundle.ownAtoms own ic cls names, w.before args s' = true := vx_own hat' (vx_isRefq hU'.1) (vx_isRefq hN'.1) hU'.2.word hN'.2.word
  have hown' : s'.vm.findClass own = some m.cls := by rw [hvm]; exact hown
  have hins : (Cond.instantiable cls 6).before args s' = true := h _ (by simp [Bundle.ownAtoms])
  obtain ⟨vm₁, cX, kX, hfX, hkX, -, -, X₁, st1⟩ := Y.newCold hexec (own := own) (C := cls) (index := ik) (n := 6) hown' hk' hins hini'
    (g := F0 m pc ls rest) rfl (by rw [hb]; exact d0) (Nat.le_refl _) (Nat.le_refl _)
  generalize hT1 : (T.setVm vm₁).pushCell { cls := cX, slots := kX.instanceTypes.map defaultValue, vm := .none } = T1 at X₁ st1
  have hcat : (Value.ref T.heap.size).category = 1 := rfl
  have hcellA : T1.heap[T.heap.size]? = some (freshCell cX kX) := by rw [← hT1]; exact State.heap_pushCell_size _ _
  have d3' : decode c.code (pc + 3) = .ok (.dup, 1) := by rw [hb]; exact d3
  have d4' : decode c.code (pc + 4) = .ok (.ldc is, 2) := by rw [hb]; exact d4
  have hstr' : vk_R own is text sa s' := vk_R.warm hW0 hstr
  obtain ⟨U, hsteps, hrun, hend, hW, hsame, ce, hce, hO⟩ := X₁.ctorThrowS hexec htr (own := own) (cls := cls) (names := names) (ic := ic) hown' hcls hnames h (fun x hx => nomatch hx) hfX hkX hcellA (by rw [hhp, hT]; exact Nat.le_refl _) (msg := .ref sa) rfl
    (g := { method := m, pc := pc + 6, locals := ls, stack := .ref sa :: .ref T.heap.size :: .ref T.heap.size :: rest, locked := none }) rfl hsize rfl rfl (rest := rest) rfl
    (by rw [hb]; exact d6) (by rw [hb]; exact d9) hout hRframes (by simp only [List.map_cons, List.sum_cons, hcat]; omega) hlocks
  obtain ⟨f1, f2⟩ := vx_frame hsame
  rw [hhp] at f1 f2
  have hWs : s.WarmedH U.vm := State.WarmedH.trans hW0 hW
  have hcl : s.vm.findClass cls = some ce.cls := by
    have h9 := hO.cls
    rw [hvm] at h9
    exact h9
  have hall : s.sameButNew ({ U with vm := s.vm } : State) locs mc ms := by
    subst hA
    obtain ⟨e1, e2⟩ := hsame
    rw [State.setFrames_setFrames] at e1
    have h2 : (T.setVm s.vm).sameButNew ({ U with vm := s.vm } : State) [] (0 + 1) (0 + 6) := ⟨e1, e2⟩
    have h3 := X.same.trans h2
    rw [List.append_nil] at h3
    exact h3.mono hc hs
  refine ⟨U, ?_, .threw T.heap.size, hrun, hend, Or.inr ⟨T.heap.size, rfl, cls, ce, locs, hx U hWs.alike f1 (fun q hq => f2 q hq (fun z hz => nomatch hz)), hce, hO.vm, hcl, hWs, hall, hf⟩⟩
  refine st1 _ ?_
  show Steps p.tables e below (T1.setTop { method := m, pc := pc + 3, locals := ls, stack := .ref T.heap.size :: rest, locked := none }) _
  jvm_step X₁.here [X₁.here.top, hexec, d3', Value.category]
  exact X₁.ldcString hexec (own := own) (text := text) (index := is) (a := sa) hown' hstr'.1 hstr'.2
    (g := { method := m, pc := pc + 4, locals := ls, stack := .ref T.heap.size :: .ref T.heap.size :: rest, locked := none }) rfl d4' _ hsteps
/-- 'throw new E("text")', the text by a wide index -/
theorem vx_throwSW {cc : ByteArray} {pc : Nat} (hexec : p.tables.exec = Jvm.exec) (hb : c.code = cc) (hl : l.stackTraces = false) {own cls text : String} {names : List String} {ik is ic mc ms sa : Nat} {A : Nat → Prop}
    (hown : s.vm.findClass own = some m.cls) (hcls : Bundle.fit cls = true) (hnames : ∀ n ∈ names, Bundle.fit n = true)
    (hk : (Cond.classLink own ik cls).before args s = true) (hini : (Cond.initialized cls).before args s = true) (hstr : vk_R own is text sa s) (hat : ∀ w ∈ vx_atS own ic cls names, w.before args s = true)
    (hgood : ∀ w ∈ Cond.classLink own ik cls :: Cond.initialized cls :: vx_atS own ic cls names, vx_ot w = true)
    (hU : vx_Zq Bundle.tN "UNASSIGNED_STACK" Bundle.steD A s s.heap) (hN : vx_Zq Bundle.tN "SUPPRESSED_SENTINEL" Bundle.listD A s s.heap) (hS : va_S A s.heap H locs) (hsize : ls.size = c.maxLocals)
    (d0 : decode cc pc = .ok (.new ik, 3)) (d3 : decode cc (pc + 3) = .ok (.dup, 1)) (d4 : decode cc (pc + 4) = .ok (.ldc_w is, 3)) (d7 : decode cc (pc + 7) = .ok (.invokespecial ic, 3)) (d10 : decode cc (pc + 10) = .ok (.athrow, 1))
    (hout : ∀ x ∈ c.exceptionTable.toList, covers x (pc + 10) = false)
    (hRframes : names.length + 3 < R.frames) (hRlocals : (rest.map fun v => v.category).sum + (13 * (names.length + 1) + 43) ≤ R.locals) (hRcells : cells + 1 ≤ R.cells) (hRslots : slots + 6 ≤ R.slots) (hlocks : meth.locks = false)
    (hx : ∀ t : State, s.vm.Alike t.vm → H.size ≤ t.heap.size → (∀ q : Nat, q < H.size → t.heap[q]? = H[q]?) → XC cls s t)
    (hf : ∀ z ∈ locs, free z.base) (hc : cells + 1 ≤ mc) (hs : slots + 6 ≤ ms) :
    W p l e R s m args below meth c H locs cells slots (vx_MQ below Qc XC args s mc ms free) (F0 m pc ls rest) := by
  intro T hT X
  have htr : e.platform.stackTraces = false := (show e.platform.stackTraces = l.stackTraces by rw [X.admits.platform]).trans hl
  have Y := vx_rebase X (R' := { frames := R.frames, locals := R.locals, cells := 1, slots := 6 }) (Nat.le_refl _) (Nat.le_refl _) hRcells hRslots
  obtain ⟨s', hA⟩ : ∃ z, z = (T.setVm s.vm).setFrames (.invoking m args :: below) := ⟨_, rfl⟩
  rw [← hA] at Y
  have hvm : s'.vm = s.vm := by rw [hA]; rfl
  have hhp : s'.heap = H := by rw [hA]; exact hT
  have hW0 : s.WarmedH s'.vm := by rw [hvm]; exact State.WarmedH.refl s
  have hat' : ∀ w ∈ vx_atS own ic cls names, w.before args s' = true := fun w hw => vx_ot_at hW0 hvm.symm (hgood w (List.mem_cons_of_mem _ (List.mem_cons_of_mem _ hw))) (hat w hw)
  have hk' : (Cond.classLink own ik cls).before args s' = true := vx_ot_at hW0 hvm.symm (hgood _ List.mem_cons_self) hk
  have hini' : (Cond.initialized cls).before args s' = true := vx_ot_at hW0 hvm.symm (hgood _ (List.mem_cons_of_mem _ List.mem_cons_self)) hini
  have hU' : vx_Zq Bundle.tN "UNASSIGNED_STACK" Bundle.steD A s' s'.heap := by rw [hhp]; exact vx_Zq.moved hW0.alike (hU.kept hS.2.1)
  have hN' : vx_Zq Bundle.tN "SUPPRESSED_SENTINEL" Bundle.listD A s' s'.heap := by rw [hhp]; exact vx_Zq.moved hW0.alike (hN.kept hS.2.1)
  have h : ∀ w ∈ Bundle.ownAtoms own ic cls names, w.before args s' = true := vx_own hat' (vx_isRefq hU'.1) (vx_isRefq hN'.1) hU'.2.word hN'.2.word
  have hown' : s'.vm.findClass own = some m.cls := by rw [hvm]; exact hown
  have hins : (Cond.instantiable cls 6).before args s' = true := h _ (by simp [Bundle.ownAtoms])
  obtain ⟨vm₁, cX, kX, hfX, hkX, -, -, X₁, st1⟩ := Y.newCold hexec (own := own) (C := cls) (index := ik) (n := 6) hown' hk' hins hini'
    (g := F0 m pc ls rest) rfl (by rw [hb]; exact d0) (Nat.le_refl _) (Nat.le_refl _)
  generalize hT1 : (T.setVm vm₁).pushCell { cls := cX, slots := kX.instanceTypes.map defaultValue, vm := .none } = T1 at X₁ st1
  have hcat : (Value.ref T.heap.size).category = 1 := rfl
  have hcellA : T1.heap[T.heap.size]? = some (freshCell cX kX) := by rw [← hT1]; exact State.heap_pushCell_size _ _
  have d3' : decode c.code (pc + 3) = .ok (.dup, 1) := by rw [hb]; exact d3
  have d4' : decode c.code (pc + 4) = .ok (.ldc_w is, 3) := by rw [hb]; exact d4
  have hstr' : vk_R own is text sa s' := vk_R.warm hW0 hstr
  obtain ⟨U, hsteps, hrun, hend, hW, hsame, ce, hce, hO⟩ := X₁.ctorThrowS hexec htr (own := own) (cls := cls) (names := names) (ic := ic) hown' hcls hnames h (fun x hx => nomatch hx) hfX hkX hcellA (by rw [hhp, hT]; exact Nat.le_refl _) (msg := .ref sa) rfl
    (g := { method := m, pc := pc + 7, locals := ls, stack := .ref sa :: .ref T.heap.size :: .ref T.heap.size :: rest, locked := none }) rfl hsize rfl rfl (rest := rest) rfl
    (by rw [hb]; exact d7) (by rw [hb]; exact d10) hout hRframes (by simp only [List.map_cons, List.sum_cons, hcat]; omega) hlocks
  obtain ⟨f1, f2⟩ := vx_frame hsame
  rw [hhp] at f1 f2
  have hWs : s.WarmedH U.vm := State.WarmedH.trans hW0 hW
  have hcl : s.vm.findClass cls = some ce.cls := by
    have h9 := hO.cls
    rw [hvm] at h9
    exact h9
  have hall : s.sameButNew ({ U with vm := s.vm } : State) locs mc ms := by
    subst hA
    obtain ⟨e1, e2⟩ := hsame
    rw [State.setFrames_setFrames] at e1
    have h2 : (T.setVm s.vm).sameButNew ({ U with vm := s.vm } : State) [] (0 + 1) (0 + 6) := ⟨e1, e2⟩
    have h3 := X.same.trans h2
    rw [List.append_nil] at h3
    exact h3.mono hc hs
  refine ⟨U, ?_, .threw T.heap.size, hrun, hend, Or.inr ⟨T.heap.size, rfl, cls, ce, locs, hx U hWs.alike f1 (fun q hq => f2 q hq (fun z hz => nomatch hz)), hce, hO.vm, hcl, hWs, hall, hf⟩⟩
  refine st1 _ ?_
  show Steps p.tables e below (T1.setTop { method := m, pc := pc + 3, locals := ls, stack := .ref T.heap.size :: rest, locked := none }) _
  jvm_step X₁.here [X₁.here.top, hexec, d3', Value.category]
  exact X₁.ldcStringW hexec (own := own) (text := text) (index := is) (a := sa) hown' hstr'.1 hstr'.2
    (g := { method := m, pc := pc + 4, locals := ls, stack := .ref T.heap.size :: .ref T.heap.size :: rest, locked := none }) rfl d4' _ hsteps
end Ends
section Bodies
variable {l : Launch}
theorem vx_ofW {y : MethodName} {ws ws' : List Cond} {rm : Room} {Pc : Array Value → State → Prop} {Qc : Array Value → State → Outcome → State → Prop} {XC : String → State → State → Prop} {mc ms : Nat} {free : Addr → Prop} {cc : ByteArray} {maxL : Nat} {ret : Option FieldType}
    (hy : plainName y.cls = true) (hw : ws = Cond.code y cc maxL ret :: ws')
    (body : ∀ p e s m args below meth c s₁, BodyLoose p l y (headSpec ws rm) cc maxL ret e s m args below meth c s₁ → c.maxLocals = maxL → (∀ x ∈ c.exceptionTable.toList, False) → Pc args s →
      W p l e (headSpec ws rm).room s m args below meth c s.heap [] 0 0 (vx_MQ below Qc XC args s mc ms free) (entryFrame m args maxL)) : vx_Met l y ws rm Pc Qc XC mc ms free := by
  refine MetFree.of_bodyS (code := cc) (maxLocals := maxL) (ret := ret) hy ?_ ?_
  · intro args s m h hn
    obtain ⟨meth, c, h1, h2, h3, h4, h5, h6, -, -⟩ := Cond.code_spec hn (atoms_spec (ws := ws) h _ (by rw [hw]; exact List.mem_cons_self))
    exact ⟨meth, c, h1, h2, h3, h4, h5, h6⟩
  · intro p e s m args below meth c s₁ B hml hP _
    have hh0 : s₁.heap = s.heap := by rw [B.state]; rfl
    have ht : ∀ x ∈ c.exceptionTable.toList, False := by
      obtain ⟨meth9, c9, h1, h2, -, -, -, -, h7, -⟩ := Cond.code_spec B.named (atoms_spec (ws := ws) B.pre _ (by rw [hw]; exact List.mem_cons_self))
      cases Option.some.inj (h1.symm.trans B.method)
      cases Option.some.inj (h2.symm.trans (Stand.of_body B).code)
      intro x hx
      rw [Array.isEmpty_iff.mp h7] at hx
      cases hx
    obtain ⟨t, a1, o, b1, b2, b3⟩ := body p e s m args below meth c s₁ B hml ht hP s₁ hh0 (Stand.of_body B)
    exact ⟨t, o, a1, b1, b2, b3⟩
/-- the table of a body with handlers -/
theorem vx_table {p : Program} {x y : MethodName} {S : Spec} {cc bytes : ByteArray} {maxL maxL' : Nat} {ret ret' : Option FieldType} {e : Env} {s s₁ : State} {m : MethodId} {args : Array Value} {below : List Frame} {meth : Method} {c : Code} {hh : List (Nat × Nat × Nat × Nat)}
    (B : BodyLoose p l y S cc maxL ret e s m args below meth c s₁) (h : (Cond.codeWith y bytes maxL' ret' hh).before args s = true) : c.exceptionTable.toList = tableOf hh := by
  obtain ⟨m9, meth9, c9, hn9, h1, h2, -, -, h6, -⟩ := Cond.codeWith_spec h
  cases Option.some.inj (hn9.symm.trans B.named)
  cases Option.some.inj (h1.symm.trans B.method)
  cases Option.some.inj (h2.symm.trans (Stand.of_body B).code)
  rw [← h6, table_eq]
end Bodies
end VXA
/-! ===== END ===== -/
/-! ===== BEGIN a static call of a method with an exception table ===== -/
section VXS
variable {p : Program} {l : Launch} {e : Env} {R : Room} {s : State} {m : MethodId} {args : Array Value} {below : List Frame} {meth : Method} {c : Code} {T : State} {H : Heap} {locs : List Loc} {cells slots : Nat}
abbrev vx_CSW (R : Room) (s : State) (args : Array Value) (own : String) (index : Nat) (y : MethodName) (bytes : ByteArray) (maxL : Nat) (ret : Option FieldType) (hh : List (Nat × Nat × Nat × Nat)) (ws : List Cond) (rm : Room) (mc ms n : Nat) : Prop :=
  (rm.cells = mc ∧ rm.slots = ms ∧ rm.frames + 1 ≤ R.frames ∧ 8 + (maxL + 11) + rm.locals ≤ R.locals ∧ (∀ w ∈ ws, ∀ (a' : Array Value) (U : State), s.WarmedH U.vm → w.before a' U = true) ∧ Cond.codeWith y bytes maxL ret hh ∈ ws) ∧
  (Cond.codeWith y bytes maxL ret hh).before args s = true ∧ (Cond.initialized y.cls).before args s = true ∧ (y.cls ≠ "java/lang/invoke/MethodHandle" ∧ y.cls ≠ "java/lang/invoke/VarHandle") ∧
  (∀ sig, parseMethodDescriptor y.desc = some sig → n = sig.parameters.length) ∧ (Cond.methodLink own index y).before args s = true ∧ (Cond.static y).before args s = true
theorem vx_cwSW {own : String} {index maxL mc ms : Nat} {y : MethodName} {bytes : ByteArray} {ret : Option FieldType} {hh : List (Nat × Nat × Nat × Nat)} {Ts ws ws' : List Cond} {rm : Room} (n : Nat) (ht : ∀ w ∈ Ts, w.before args s = true) (hT : GoodIn Ts (va_wsS own index y ws)) (hw : ws = Cond.codeWith y bytes maxL ret hh :: ws') (hrc : rm.cells = mc) (hrs : rm.slots = ms)
    (hd : y.cls ≠ "java/lang/invoke/MethodHandle" ∧ y.cls ≠ "java/lang/invoke/VarHandle" ∧ (parseMethodDescriptor y.desc).map (fun d => d.parameters.length) = some n) (hR : rm.frames + 1 ≤ R.frames ∧ 8 + (maxL + 11) + rm.locals ≤ R.locals) :
    vx_CSW R s args own index y bytes maxL ret hh ws rm mc ms n := by
  have ok : ∀ w ∈ va_wsS own index y ws, w.before args s = true := fun w h => ht w (hT w h).1
  have hG : GoodIn Ts ws := fun w h => hT w (by unfold va_wsS; exact List.mem_append_right _ h)
  have hc : Cond.codeWith y bytes maxL ret hh ∈ ws := by rw [hw]; exact List.mem_cons_self
  refine ⟨⟨hrc, hrs, hR.1, hR.2, pay_in ht hG, hc⟩, ht _ (hG _ hc).1, ok _ (by simp [va_wsS]), ⟨hd.1, hd.2.1⟩, fun sig h => ?_, ok _ (by simp [va_wsS]), ok _ (by simp [va_wsS])⟩
  have h2 := hd.2.2
  rw [h] at h2
  exact (Option.some.inj h2).symm
theorem vx_callSW (X : Stand p l e R s m args below meth c T locs cells slots) (hexec : p.tables.exec = Jvm.exec) {own : String} {index : Nat} {y : MethodName} {bytes : ByteArray} {maxL : Nat} {ret : Option FieldType} {hh : List (Nat × Nat × Nat × Nat)}
    (hown : s.vm.findClass own = some m.cls) (hlink : (Cond.methodLink own index y).before args s = true) (hstat : (Cond.static y).before args s = true) (hinit : (Cond.initialized y.cls).before args s = true)
    (hcode : (Cond.codeWith y bytes maxL ret hh).before args s = true) (hy : y.cls ≠ "java/lang/invoke/MethodHandle" ∧ y.cls ≠ "java/lang/invoke/VarHandle")
    {W9 : Nat} {Pre : Pt → Array Value → Prop} {Post : Pt → Array Value → Option Value → Pt → Prop} (hK : Back l R p e below s args y 3 W9 Pre Post)
    {g : JFrame} (hg : g.method = m) (hsize : g.locals.size = c.maxLocals) {argsL rest : List Value} (hlen : ∀ sig, parseMethodDescriptor y.desc = some sig → argsL.length = sig.parameters.length)
    (hstack : g.stack = argsL.reverse ++ rest) (hW : 2 * g.monitorRoom + (rest.map fun v => v.category).sum ≤ W9) (hdg : decode c.code g.pc = .ok (.invokestatic index, 3))
    (hpre : ∀ vm₁, s.WarmedH vm₁ → Pre ⟨T.setVm vm₁, locs, cells, slots⟩ argsL.toArray) :
    ∃ (v : Option Value) (vm₁ : Vm) (B : Pt), s.WarmedH vm₁ ∧ Stand p l e R s m args below meth c B.U B.locs B.cells B.slots ∧ Post ⟨T.setVm vm₁, locs, cells, slots⟩ argsL.toArray v B ∧
      ∀ target, Steps p.tables e below (B.U.setTop { g with pc := g.pc + 3, stack := v.toList ++ rest }) target → Steps p.tables e below (T.setTop g) target := by
  obtain ⟨mk, methM, cM, hnamed, hmethM, -, -, -, -, -, -, hsigM⟩ := Cond.codeWith_spec hcode
  have hstatic : methM.isStatic = true := Cond.static_spec hnamed hmethM hstat
  obtain ⟨kP, hkP, -⟩ := className_of_methodNamed hnamed
  have hinitP : kP.init = .initialized := Cond.initialized_spec (findClass_of_methodNamed hnamed) hkP hinit
  obtain ⟨vm₁, X₁, hstep₁⟩ := X.invokestatic hexec hown hlink hnamed hmethM hstatic hkP hinitP hy (g := g) hg (argsL := argsL) (rest := rest) (hlen _ hsigM) hstack hdg
  obtain ⟨v, B, X', hpost, hsteps⟩ := hK m meth c ⟨T.setVm vm₁, locs, cells, slots⟩ { g with stack := rest } (.invokestatic index) mk argsL.toArray X₁ hg hsize hdg hW (X₁.named hnamed) (hpre vm₁ X₁.warmed)
  exact ⟨v, vm₁, B, X₁.warmed, X', hpost, fun target h => hstep₁ _ fun acts => by rw [doInvoke_state]; exact hsteps.trans h⟩
theorem vx_runSW {y : MethodName} {bytes cc : ByteArray} {maxL nL mc ms n index : Nat} {ret : Option FieldType} {hh : List (Nat × Nat × Nat × Nat)} {ws : List Cond} {rm : Room} {Pc : Array Value → State → Prop} {Qc : Array Value → State → Outcome → State → Prop} {free : Addr → Prop} {Ts : List Cond} {own : String} {As rest : List Value} {g : JFrame}
    (S : CallFix p m c cc nL s args Ts own) (hM : Met l y ws rm Pc Qc mc ms free) (cw : vx_CSW R s args own index y bytes maxL ret hh ws rm mc ms n) (hp : PreS s H Pc As)
    (hg : g.method = m) (hn : As.length = n) (hsize : g.locals.size = nL) (hstack : g.stack = As.reverse ++ rest) (hW : 2 * g.monitorRoom + (rest.map fun v => v.category).sum ≤ 8) (hdg : decode cc g.pc = .ok (.invokestatic index, 3)) (hf : cells + mc ≤ R.cells ∧ slots + ms ≤ R.slots) :
    va_Run p l e R s m args below meth c H locs cells slots mc ms g rest (Qc As.toArray) (free) := by
  obtain ⟨⟨hrc, hrs, hfr, hlo, hws, hcw⟩, hcode, hini, hy, hlen, hl, hstt⟩ := cw
  have hK : Back l R p e below s args y 3 8 (PreOf R mc ms Pc) (PostOf Qc mc ms free) := va_backW (hh := hh) (bytes := bytes) (maxL := maxL) (ret := ret) hM hp.1 hrc hrs hfr hlo hws hcw (fun a' U hW => word_at hW (Or.inl (by first | rfl | simp [Cond.onTables, Cond.keeps, Cond.steady])) hini)
  obtain ⟨hx, hb, hml, ho, -⟩ := S
  intro T hT X
  obtain ⟨v, vm₁, ⟨U', l2, c2, s2⟩, hW₁, X', ⟨g', mk, t, L, e1, e2, hq, h1, hL, h2, h3⟩, st⟩ := vx_callSW X hx (hh := hh) (bytes := bytes) (maxL := maxL) (ret := ret) ho hl hstt hini hcode hy hK hg (hsize.trans hml.symm) (argsL := As) (rest := rest) (fun sig h => hn.trans (hlen sig h)) hstack hW (by rw [hb]; exact hdg)
    (fun vm₁ hW₁ => ⟨hf.1, hf.2, hp.2 (T.setVm vm₁) hT hW₁⟩)
  dsimp only [Pt.U, Pt.locs, Pt.cells, Pt.slots] at X' e1 e2 h1 h2 h3 st
  subst h1; subst h2; subst h3
  exact ⟨v, (T.setVm vm₁).calling g' mk As.toArray, t, U', L, hT, X', hL, e1, e2, hq, st⟩
/-- not caught here, past rows that name other classes: it goes on to the caller -/
theorem vx_outP {p : Program} {l : Launch} {e : Env} {R : Room} {s : State} {m : MethodId} {args : Array Value} {below : List Frame} {meth : Method} {c : Code} {H : Heap} {locs : List Loc} {cells slots : Nat} {free : Addr → Prop} {ls : Array Slot} {rest : List Value} {Qc : Array Value → State → Outcome → State → Prop} {XC : String → State → State → Prop}
    {pc : Nat} {own E : String} {ce : Cell} {q : Addr} {mc ms : Nat} (hown : s.vm.findClass own = some m.cls) (hlocks : meth.locks = false)
    (hpass : ∀ z ∈ c.exceptionTable.toList, covers z pc = false ∨ (z.catchType ≠ 0 ∧ ∃ nm : String, (Cond.classLink own z.catchType nm).before args s = true ∧ va_Nc E nm s)) (hcell : H[q]? = some ce) (hv : ce.vm = .none) (hcl : s.vm.findClass E = some ce.cls)
    (hx : ∀ t : State, t.heap = H → s.vm.Alike t.vm → XC E s t) (hf : ∀ z ∈ locs, free z.base) (hc : cells ≤ mc) (hs : slots ≤ ms) :
    vx_W p l e R s m args below meth c H locs cells slots (vx_MQ below Qc XC args s mc ms free) (F0 m pc ls rest) q := by
  intro T hT X
  have hpl : e.platform.magicAccessors = ({} : Platform).magicAccessors := by rw [X.admits.platform]
  obtain ⟨vm', hW', X', st⟩ := X.outThrough hlocks q (g := F0 m pc ls rest) rfl rfl rfl (cell := ce) (by rw [hT]; exact hcell) (by rw [hv]; rfl)
    (by obtain ⟨k9, h9, -⟩ := Vm.findClass_spec hcl; exact ⟨k9, h9⟩) (fun z hz => by
      rcases hpass z hz with h | ⟨hz0, nm, hl1, hn1⟩
      · exact Or.inl h
      · obtain ⟨c6, hc6, hcl6⟩ := Cond.classLink_spec hown hl1 e.platform hpl
        obtain ⟨a8, b8, h1, h2, h3⟩ := hn1
        cases Option.some.inj (h1.symm.trans hcl)
        cases Option.some.inj (h2.symm.trans hc6)
        exact Or.inr ⟨hz0, _, hcl6, h3⟩)
  obtain ⟨g₀, hfr⟩ := X'.frames_eq
  have hcell9 : ((T.setVm vm').setFrames (.throwing q :: below)).heap[q]? = some ce := by
    show T.heap[q]? = some ce
    rw [hT]; exact hcell
  have hend : Ended ((T.setVm vm').setFrames (.throwing q :: below)) below (.threw q) := State.frames_setFrames _ (State.cur_lt_of_frames hfr)
  refine ⟨(T.setVm vm').setFrames (.throwing q :: below), ?_, .threw q, X'.here.running, hend, Or.inr ⟨q, rfl, E, ce, locs, hx _ hT (X'.ends _).1.alike, hcell9, hv, hcl, (X'.ends _).1, (X'.ends _).2.mono hc hs, hf⟩⟩
  rw [X.pushThrowing_eq]
  exact st
/-- a thing of a world lies in the heap -/
theorem vx_lt {D : va_G} {cl : List vw_C} {ws : va_W} {H1 : Heap} (h : va_P D cl ws H1) {k : Nat} {q : Nat × va_E} (hk : ws[k]? = some q) : q.1 < H1.size := (h k q hk).lt
end VXS
/-! ===== END ===== -/
/-! ===== BEGIN methods with a table of their own: called by a name, returning or throwing ===== -/
section VXH
/-! vx_backW, vx_callVX, vx_callSX, vx_callVW, vx_runVW, vx_runVX, vx_runSX, vx_ofWH follow the same proofs as their sisters above (Free/Laws.lean, Shelf42/LK1.lean); vx_outP calls Shelf42/NT130.lean (outThrough). -/
section
variable {l : Launch} {R : Room} {p : Program} {e : Env} {below : List Frame} {s : State} {sargs : Array Value} {y : MethodName} {len W9 : Nat}
theorem vx_backW {ws : List Cond} {rm : Room} {Pc : Array Value → State → Prop} {Qc : Array Value → State → Outcome → State → Prop} {XC : String → State → State → Prop} {mc ms : Nat} {free : Addr → Prop} {bytes : ByteArray} {maxL : Nat} {ret : Option FieldType} {hh : List (Nat × Nat × Nat × Nat)}
    (hM : vx_Met l y ws rm Pc Qc XC mc ms free) (hblind : FrameBlind Pc) (hrc : rm.cells = mc) (hrs : rm.slots = ms)
    (hframes : rm.frames + 1 ≤ R.frames) (hlocals : W9 + (maxL + 11) + rm.locals ≤ R.locals)
    (hws : ∀ w ∈ ws, ∀ a' U, s.WarmedH U.vm → w.before a' U = true) (hcode : Cond.codeWith y bytes maxL ret hh ∈ ws) (hinit : ∀ a' U, s.WarmedH U.vm → (Cond.initialized y.cls).before a' U = true) :
    vx_Back l R p e below s sargs y len W9 (PreOf R mc ms Pc) (PostOf Qc mc ms free) (vx_Post XC mc ms free) := by
  intro m meth c A g ig mk a X hg hsize hdg hW hn hp
  have h1 : (headSpec ws rm).pre.before a A.U = true := atoms_intro fun w hw => hws w hw _ _ X.warmed
  have h2 : (Cond.codeWith y bytes maxL ret hh).before a A.U = true := hws _ hcode _ _ X.warmed
  have h3 : (Cond.initialized y.cls).before a A.U = true := hinit _ _ X.warmed
  have h4 : A.cells + (headSpec ws rm).room.cells ≤ R.cells := by rw [show (headSpec ws rm).room.cells = mc from hrc]; exact hp.1
  have h5 : A.slots + (headSpec ws rm).room.slots ≤ R.slots := by rw [show (headSpec ws rm).room.slots = ms from hrs]; exact hp.2.1
  have hPc : Pc a (A.U.calling g mk a) := hblind _ _ _ _ hp.2.2
  obtain ⟨U, Ls, c0, s0⟩ := A
  dsimp only [Pt.U, Pt.locs, Pt.cells, Pt.slots] at h1 h2 h3 h4 h5 X hn hPc ⊢
  obtain ⟨m9, methY, cY, hn9, hmY, hcY, -, hlY, -⟩ := Cond.codeWith_spec h2
  cases Option.some.inj (hn9.symm.trans hn)
  obtain ⟨kY, hkY, -⟩ := className_of_methodNamed hn
  have hinitY : kY.init = .initialized := Cond.initialized_spec (findClass_of_methodNamed hn) hkY h3
  have h : At U g.method c below := by rw [hg]; exact X.here
  have hlocals9 : W9 + (maxL + 11) + (headSpec ws rm).room.locals ≤ R.locals := hlocals
  have happ : (headSpec ws rm).appliesLoose y e.platform (U.calling g mk a) = true :=
    Spec.appliesLoose_calling (g := g) h hdg hn hkY hinitY
      (X.room_calling (g := g) (R' := (headSpec ws rm).room) hsize hmY hcY hframes (by rw [hlY]; omega) h4 h5) h1
  obtain ⟨mid, hmid⟩ := h.above
  have hfr : (U.setTop g).frames = (.java g :: mid) ++ below := by rw [State.frames_setTop' g h.top, hmid]; rfl
  obtain ⟨o, s₂, hsteps, -, hend, hq⟩ := Steps.callFree hM p X.admits X.cas X.clock (acts := []) hfr happ hPc trivial
  have hq' : vx_Q Qc XC mc ms free a (U.calling g mk a) o s₂ := hq
  rw [State.frames_setTop' g h.top] at hend
  obtain ⟨g₀, hg0⟩ := Option.isSome_iff_exists.mp h.top
  obtain ⟨r, hr⟩ := State.topJava?_eq_some.mp hg0
  have hr' : (({ U with heap := s₂.heap, slotsUsed := s₂.slotsUsed } : State).setVm s₂.vm).frames = .java g₀ :: r := hr
  rcases hq' with ⟨hqc, L, hfe, hL⟩ | ⟨q, rfl, E, ce, L, hx, hce, hcv, hcl, hW₂, hsm, hL⟩
  · obtain ⟨⟨v, rfl⟩, hW₂, e2, q2, q3, q4, q5, q6⟩ := id hfe
    have e3 : s₂ = ({ (U.calling g mk a).setFrames s₂.frames with heap := s₂.heap, slotsUsed := s₂.slotsUsed } : State).setVm s₂.vm := by
      have : s₂ = ({ s₂ with vm := (U.calling g mk a).vm } : State).setVm s₂.vm := rfl
      rw [e2] at this
      exact this
    obtain ⟨c₂, i₂, len₂, hc₂, hd₂, hf₂⟩ := hend
    have hW' : U.WarmedH s₂.vm := hW₂
    have hcc : c₂ = c := by
      have h1 : s₂.code? g.method = U.code? g.method := by
        rw [State.code?_eq, State.code?_eq, hW'.alike.method?]
      exact Option.some.inj (hc₂.symm.trans (h1.trans h.code))
    subst hcc
    have hlen : len₂ = len := by rw [hdg] at hd₂; cases hd₂; rfl
    subst hlen
    have hs₂ : s₂ = (({ U with heap := s₂.heap, slotsUsed := s₂.slotsUsed } : State).setVm s₂.vm).setTop { g with pc := g.pc + len₂, stack := v.toList ++ g.stack } := by
      refine e3.trans ?_
      rw [hf₂, State.calling_eq h.top, State.setFrames_setFrames, State.setTop_of_frames _ hr', hr]
      rfl
    have hsame : U.sameButNew ({ U with heap := s₂.heap, slotsUsed := s₂.slotsUsed } : State) L mc ms := by
      refine ⟨?_, q2, q3, q4, q5, q6⟩
      obtain ⟨t, ht, -⟩ := State.frames_cons hr
      show ({ U with heap := s₂.heap, slotsUsed := s₂.slotsUsed } : State) = { U.setFrames U.frames with heap := s₂.heap, slotsUsed := s₂.slotsUsed }
      rw [State.setFrames_self ht]
    subst hg
    refine Or.inl ⟨v, ⟨(({ U with heap := s₂.heap, slotsUsed := s₂.slotsUsed } : State).setVm s₂.vm), Ls ++ L, c0 + mc, s0 + ms⟩,
      ⟨X.admits, X.cas, X.clock, X.frames, X.room, X.hears, X.method, X.code, (X.here.setHeapUsed s₂.heap s₂.slotsUsed).setVm hW'.alike, X.tail, State.WarmedH.trans X.warmed hW', X.limits, X.bytes, X.same.trans (hsame.setVm s.vm)⟩,
      ⟨g, mk, s₂, L, rfl, rfl, hqc, rfl, hL, rfl, rfl⟩, ?_⟩
    show Steps p.tables e below _ ((({ U with heap := s₂.heap, slotsUsed := s₂.slotsUsed } : State).setVm s₂.vm).setTop { g with pc := g.pc + len₂, stack := v.toList ++ g.stack })
    rw [← hs₂]
    exact hsteps
  · obtain ⟨e2, q2, q3, q4, q5, q6⟩ := id hsm
    have e3 : s₂ = ({ (U.calling g mk a).setFrames s₂.frames with heap := s₂.heap, slotsUsed := s₂.slotsUsed } : State).setVm s₂.vm := by
      have : s₂ = ({ s₂ with vm := (U.calling g mk a).vm } : State).setVm s₂.vm := rfl
      rw [e2] at this
      exact this
    have hf₂ : s₂.frames = .throwing q :: .java g :: U.frames.tail := hend
    have hW' : U.WarmedH s₂.vm := hW₂
    have hs₂ : s₂ = ((({ U with heap := s₂.heap, slotsUsed := s₂.slotsUsed } : State).setVm s₂.vm).setTop g).pushFrame (.throwing q) := by
      refine e3.trans ?_
      rw [hf₂, State.calling_eq h.top, State.setFrames_setFrames, State.pushFrame, State.frames_setTop _ hr', State.setTop_of_frames _ hr', State.setFrames_setFrames, hr]
      rfl
    have hsame : U.sameButNew ({ U with heap := s₂.heap, slotsUsed := s₂.slotsUsed } : State) L mc ms := by
      refine ⟨?_, q2, q3, q4, q5, q6⟩
      obtain ⟨t, ht, -⟩ := State.frames_cons hr
      show ({ U with heap := s₂.heap, slotsUsed := s₂.slotsUsed } : State) = { U.setFrames U.frames with heap := s₂.heap, slotsUsed := s₂.slotsUsed }
      rw [State.setFrames_self ht]
    subst hg
    refine Or.inr ⟨q, ⟨(({ U with heap := s₂.heap, slotsUsed := s₂.slotsUsed } : State).setVm s₂.vm), Ls ++ L, c0 + mc, s0 + ms⟩,
      ⟨X.admits, X.cas, X.clock, X.frames, X.room, X.hears, X.method, X.code, (X.here.setHeapUsed s₂.heap s₂.slotsUsed).setVm hW'.alike, X.tail, State.WarmedH.trans X.warmed hW', X.limits, X.bytes, X.same.trans (hsame.setVm s.vm)⟩,
      ⟨g, mk, s₂, L, E, ce, rfl, rfl, hx, hce, hcv, hcl, rfl, hL, rfl, rfl⟩, ?_⟩
    show Steps p.tables e below _ (((({ U with heap := s₂.heap, slotsUsed := s₂.slotsUsed } : State).setVm s₂.vm).setTop g).pushFrame (.throwing q))
    rw [← hs₂]
    exact hsteps
end
variable {p : Program} {l : Launch} {e : Env} {R : Room} {s : State} {m : MethodId} {args : Array Value} {below : List Frame} {meth : Method} {c : Code} {T : State} {H : Heap} {locs : List Loc} {cells slots : Nat}
theorem vx_callVX (X : Stand p l e R s m args below meth c T locs cells slots) (hexec : p.tables.exec = Jvm.exec) {own C : String} {index : Nat} {y : MethodName} {bytes : ByteArray} {maxL : Nat} {ret : Option FieldType} {hh : List (Nat × Nat × Nat × Nat)}
    (hown : s.vm.findClass own = some m.cls) (hlink : (Cond.methodLink own index y).before args s = true) (hinst : (Cond.instanceMethod y).before args s = true) (hsel : (Cond.selects C y y).before args s = true)
    (hcode : (Cond.codeWith y bytes maxL ret hh).before args s = true) (hy : y.cls ≠ "java/lang/invoke/MethodHandle" ∧ y.cls ≠ "java/lang/invoke/VarHandle")
    {W9 : Nat} {Pre : Pt → Array Value → Prop} {Post : Pt → Array Value → Option Value → Pt → Prop} {PostX : Pt → Array Value → Addr → Pt → Prop} (hK : vx_Back l R p e below s args y 3 W9 Pre Post PostX)
    {b : Addr} {cellB : Cell} (hcell : T.heap[b]? = some cellB) (hobj : cellB.vm.isStatics = false) (hcls : s.vm.findClass C = some cellB.cls)
    {g : JFrame} (hg : g.method = m) (hsize : g.locals.size = c.maxLocals) {argsL rest : List Value} (hlen : ∀ sig, parseMethodDescriptor y.desc = some sig → argsL.length = sig.parameters.length)
    (hstack : g.stack = argsL.reverse ++ .ref b :: rest) (hW : 2 * g.monitorRoom + (rest.map fun v => v.category).sum ≤ W9) (hdg : decode c.code g.pc = .ok (.invokevirtual index, 3))
    (hpre : ∀ vm₁, s.WarmedH vm₁ → Pre ⟨T.setVm vm₁, locs, cells, slots⟩ (Value.ref b :: argsL).toArray) :
    (∃ (v : Option Value) (vm₁ : Vm) (B : Pt), s.WarmedH vm₁ ∧ Stand p l e R s m args below meth c B.U B.locs B.cells B.slots ∧ Post ⟨T.setVm vm₁, locs, cells, slots⟩ (Value.ref b :: argsL).toArray v B ∧
      ∀ target, Steps p.tables e below (B.U.setTop { g with pc := g.pc + 3, stack := v.toList ++ rest }) target → Steps p.tables e below (T.setTop g) target) ∨
    (∃ (q : Addr) (vm₁ : Vm) (B : Pt), s.WarmedH vm₁ ∧ Stand p l e R s m args below meth c B.U B.locs B.cells B.slots ∧ PostX ⟨T.setVm vm₁, locs, cells, slots⟩ (Value.ref b :: argsL).toArray q B ∧
      Steps p.tables e below (T.setTop g) ((B.U.setTop { g with stack := rest }).pushFrame (.throwing q))) := by
  obtain ⟨mk, methM, hnamed, hmethM, hstM, habM⟩ := Cond.instanceMethod_spec hinst
  obtain ⟨m8, methM', cM, hn8, hmethM', -, -, -, -, -, -, hsigM⟩ := Cond.codeWith_spec hcode
  cases Option.some.inj (hn8.symm.trans hnamed)
  cases hmethM.symm.trans hmethM'
  obtain ⟨c2, r2, m2, q1, q2, q3, q4, kP, hkP, hkPi⟩ := Cond.selects_spec hsel
  cases hcls.symm.trans q1
  cases (State.methodFound?_of_named hnamed hy).symm.trans q2
  cases hnamed.symm.trans q3
  have hselP : selectMethod e.platform s.vm cellB.cls mk = .method mk := by rw [Launch.admits_selectMethod X.admits]; exact q4
  obtain ⟨vm₁, X₁, hstep₁⟩ := X.invokevirtual hexec hown hlink hnamed hmethM hstM hkP hkPi hy (a := b) (cell := cellB) hcell
    (fun z h => by rw [h] at hobj; cases hobj) hselP hmethM habM hkP hkPi (g := g) hg (argsL := argsL) (rest := rest) (hlen _ hsigM) hstack hdg
  rcases hK m meth c ⟨T.setVm vm₁, locs, cells, slots⟩ { g with stack := rest } (.invokevirtual index) mk (Value.ref b :: argsL).toArray X₁ hg hsize hdg hW (X₁.named hnamed) (hpre vm₁ X₁.warmed) with ⟨v, B, X', hpost, hsteps⟩ | ⟨q, B, X', hpost, hsteps⟩
  · exact Or.inl ⟨v, vm₁, B, X₁.warmed, X', hpost, fun target h => hstep₁ _ fun acts => by rw [doInvoke_state]; exact hsteps.trans h⟩
  · exact Or.inr ⟨q, vm₁, B, X₁.warmed, X', hpost, hstep₁ _ fun acts => by rw [doInvoke_state]; exact hsteps⟩
theorem vx_callSX (X : Stand p l e R s m args below meth c T locs cells slots) (hexec : p.tables.exec = Jvm.exec) {own : String} {index : Nat} {y : MethodName} {bytes : ByteArray} {maxL : Nat} {ret : Option FieldType} {hh : List (Nat × Nat × Nat × Nat)}
    (hown : s.vm.findClass own = some m.cls) (hlink : (Cond.methodLink own index y).before args s = true) (hstat : (Cond.static y).before args s = true) (hinit : (Cond.initialized y.cls).before args s = true)
    (hcode : (Cond.codeWith y bytes maxL ret hh).before args s = true) (hy : y.cls ≠ "java/lang/invoke/MethodHandle" ∧ y.cls ≠ "java/lang/invoke/VarHandle")
    {W9 : Nat} {Pre : Pt → Array Value → Prop} {Post : Pt → Array Value → Option Value → Pt → Prop} {PostX : Pt → Array Value → Addr → Pt → Prop} (hK : vx_Back l R p e below s args y 3 W9 Pre Post PostX)
    {g : JFrame} (hg : g.method = m) (hsize : g.locals.size = c.maxLocals) {argsL rest : List Value} (hlen : ∀ sig, parseMethodDescriptor y.desc = some sig → argsL.length = sig.parameters.length)
    (hstack : g.stack = argsL.reverse ++ rest) (hW : 2 * g.monitorRoom + (rest.map fun v => v.category).sum ≤ W9) (hdg : decode c.code g.pc = .ok (.invokestatic index, 3))
    (hpre : ∀ vm₁, s.WarmedH vm₁ → Pre ⟨T.setVm vm₁, locs, cells, slots⟩ argsL.toArray) :
    (∃ (v : Option Value) (vm₁ : Vm) (B : Pt), s.WarmedH vm₁ ∧ Stand p l e R s m args below meth c B.U B.locs B.cells B.slots ∧ Post ⟨T.setVm vm₁, locs, cells, slots⟩ argsL.toArray v B ∧
      ∀ target, Steps p.tables e below (B.U.setTop { g with pc := g.pc + 3, stack := v.toList ++ rest }) target → Steps p.tables e below (T.setTop g) target) ∨
    (∃ (q : Addr) (vm₁ : Vm) (B : Pt), s.WarmedH vm₁ ∧ Stand p l e R s m args below meth c B.U B.locs B.cells B.slots ∧ PostX ⟨T.setVm vm₁, locs, cells, slots⟩ argsL.toArray q B ∧
      Steps p.tables e below (T.setTop g) ((B.U.setTop { g with stack := rest }).pushFrame (.throwing q))) := by
  obtain ⟨mk, methM, cM, hnamed, hmethM, -, -, -, -, -, -, hsigM⟩ := Cond.codeWith_spec hcode
  have hstatic : methM.isStatic = true := Cond.static_spec hnamed hmethM hstat
  obtain ⟨kP, hkP, -⟩ := className_of_methodNamed hnamed
  have hinitP : kP.init = .initialized := Cond.initialized_spec (findClass_of_methodNamed hnamed) hkP hinit
  obtain ⟨vm₁, X₁, hstep₁⟩ := X.invokestatic hexec hown hlink hnamed hmethM hstatic hkP hinitP hy (g := g) hg (argsL := argsL) (rest := rest) (hlen _ hsigM) hstack hdg
  rcases hK m meth c ⟨T.setVm vm₁, locs, cells, slots⟩ { g with stack := rest } (.invokestatic index) mk argsL.toArray X₁ hg hsize hdg hW (X₁.named hnamed) (hpre vm₁ X₁.warmed) with ⟨v, B, X', hpost, hsteps⟩ | ⟨q, B, X', hpost, hsteps⟩
  · exact Or.inl ⟨v, vm₁, B, X₁.warmed, X', hpost, fun target h => hstep₁ _ fun acts => by rw [doInvoke_state]; exact hsteps.trans h⟩
  · exact Or.inr ⟨q, vm₁, B, X₁.warmed, X', hpost, hstep₁ _ fun acts => by rw [doInvoke_state]; exact hsteps⟩
theorem vx_callVW (X : Stand p l e R s m args below meth c T locs cells slots) (hexec : p.tables.exec = Jvm.exec) {own C : String} {index : Nat} {y : MethodName} {bytes : ByteArray} {maxL : Nat} {ret : Option FieldType} {hh : List (Nat × Nat × Nat × Nat)}
    (hown : s.vm.findClass own = some m.cls) (hlink : (Cond.methodLink own index y).before args s = true) (hinst : (Cond.instanceMethod y).before args s = true) (hsel : (Cond.selects C y y).before args s = true)
    (hcode : (Cond.codeWith y bytes maxL ret hh).before args s = true) (hy : y.cls ≠ "java/lang/invoke/MethodHandle" ∧ y.cls ≠ "java/lang/invoke/VarHandle")
    {W9 : Nat} {Pre : Pt → Array Value → Prop} {Post : Pt → Array Value → Option Value → Pt → Prop} (hK : Back l R p e below s args y 3 W9 Pre Post)
    {b : Addr} {cellB : Cell} (hcell : T.heap[b]? = some cellB) (hobj : cellB.vm.isStatics = false) (hcls : s.vm.findClass C = some cellB.cls)
    {g : JFrame} (hg : g.method = m) (hsize : g.locals.size = c.maxLocals) {argsL rest : List Value} (hlen : ∀ sig, parseMethodDescriptor y.desc = some sig → argsL.length = sig.parameters.length)
    (hstack : g.stack = argsL.reverse ++ .ref b :: rest) (hW : 2 * g.monitorRoom + (rest.map fun v => v.category).sum ≤ W9) (hdg : decode c.code g.pc = .ok (.invokevirtual index, 3))
    (hpre : ∀ vm₁, s.WarmedH vm₁ → Pre ⟨T.setVm vm₁, locs, cells, slots⟩ (Value.ref b :: argsL).toArray) :
    ∃ (v : Option Value) (vm₁ : Vm) (B : Pt), s.WarmedH vm₁ ∧ Stand p l e R s m args below meth c B.U B.locs B.cells B.slots ∧ Post ⟨T.setVm vm₁, locs, cells, slots⟩ (Value.ref b :: argsL).toArray v B ∧
      ∀ target, Steps p.tables e below (B.U.setTop { g with pc := g.pc + 3, stack := v.toList ++ rest }) target → Steps p.tables e below (T.setTop g) target := by
  obtain ⟨mk, methM, hnamed, hmethM, hstM, habM⟩ := Cond.instanceMethod_spec hinst
  obtain ⟨m8, methM', cM, hn8, hmethM', -, -, -, -, -, -, hsigM⟩ := Cond.codeWith_spec hcode
  cases Option.some.inj (hn8.symm.trans hnamed)
  cases hmethM.symm.trans hmethM'
  obtain ⟨c2, r2, m2, q1, q2, q3, q4, kP, hkP, hkPi⟩ := Cond.selects_spec hsel
  cases hcls.symm.trans q1
  cases (State.methodFound?_of_named hnamed hy).symm.trans q2
  cases hnamed.symm.trans q3
  have hselP : selectMethod e.platform s.vm cellB.cls mk = .method mk := by rw [Launch.admits_selectMethod X.admits]; exact q4
  obtain ⟨vm₁, X₁, hstep₁⟩ := X.invokevirtual hexec hown hlink hnamed hmethM hstM hkP hkPi hy (a := b) (cell := cellB) hcell
    (fun z h => by rw [h] at hobj; cases hobj) hselP hmethM habM hkP hkPi (g := g) hg (argsL := argsL) (rest := rest) (hlen _ hsigM) hstack hdg
  obtain ⟨v, B, X', hpost, hsteps⟩ := hK m meth c ⟨T.setVm vm₁, locs, cells, slots⟩ { g with stack := rest } (.invokevirtual index) mk (Value.ref b :: argsL).toArray X₁ hg hsize hdg hW (X₁.named hnamed) (hpre vm₁ X₁.warmed)
  exact ⟨v, vm₁, B, X₁.warmed, X', hpost, fun target h => hstep₁ _ fun acts => by rw [doInvoke_state]; exact hsteps.trans h⟩
abbrev vx_CVW (R : Room) (s : State) (args : Array Value) (own C : String) (index : Nat) (y : MethodName) (bytes : ByteArray) (maxL : Nat) (ret : Option FieldType) (hh : List (Nat × Nat × Nat × Nat)) (ws : List Cond) (rm : Room) (mc ms n : Nat) : Prop :=
  (rm.cells = mc ∧ rm.slots = ms ∧ rm.frames + 1 ≤ R.frames ∧ 8 + (maxL + 11) + rm.locals ≤ R.locals ∧ (∀ w ∈ ws, ∀ (a' : Array Value) (U : State), s.WarmedH U.vm → w.before a' U = true) ∧ Cond.codeWith y bytes maxL ret hh ∈ ws) ∧
  (Cond.codeWith y bytes maxL ret hh).before args s = true ∧ (Cond.initialized y.cls).before args s = true ∧ (y.cls ≠ "java/lang/invoke/MethodHandle" ∧ y.cls ≠ "java/lang/invoke/VarHandle") ∧
  (∀ sig, parseMethodDescriptor y.desc = some sig → n = sig.parameters.length) ∧ (Cond.methodLink own index y).before args s = true ∧ (Cond.instanceMethod y).before args s = true ∧ (Cond.selects C y y).before args s = true
theorem vx_cwVW {own C : String} {index maxL mc ms : Nat} {y : MethodName} {bytes : ByteArray} {ret : Option FieldType} {hh : List (Nat × Nat × Nat × Nat)} {Ts ws ws' : List Cond} {rm : Room} (n : Nat) (ht : ∀ w ∈ Ts, w.before args s = true) (hT : GoodIn Ts (wsV own index C y ws)) (hw : ws = Cond.codeWith y bytes maxL ret hh :: ws') (hrc : rm.cells = mc) (hrs : rm.slots = ms)
    (hd : y.cls = C ∧ y.cls ≠ "java/lang/invoke/MethodHandle" ∧ y.cls ≠ "java/lang/invoke/VarHandle" ∧ (parseMethodDescriptor y.desc).map (fun d => d.parameters.length) = some n) (hR : rm.frames + 1 ≤ R.frames ∧ 8 + (maxL + 11) + rm.locals ≤ R.locals) :
    vx_CVW R s args own C index y bytes maxL ret hh ws rm mc ms n := by
  obtain ⟨hC, hd⟩ := hd
  subst hC
  have ok : ∀ w ∈ wsV own index y.cls y ws, w.before args s = true := fun w h => ht w (hT w h).1
  have hG : GoodIn Ts ws := fun w h => hT w (by unfold wsV; exact List.mem_append_right _ h)
  have hc : Cond.codeWith y bytes maxL ret hh ∈ ws := by rw [hw]; exact List.mem_cons_self
  refine ⟨⟨hrc, hrs, hR.1, hR.2, pay_in ht hG, hc⟩, ht _ (hG _ hc).1, ok _ (by simp [wsV]), ⟨hd.1, hd.2.1⟩, fun sig h => ?_, ok _ (by simp [wsV]), ok _ (by simp [wsV]), ok _ (by simp [wsV])⟩
  have h2 := hd.2.2
  rw [h] at h2
  exact (Option.some.inj h2).symm
theorem vx_runVW {y : MethodName} {bytes cc : ByteArray} {maxL nL mc ms n index : Nat} {ret : Option FieldType} {hh : List (Nat × Nat × Nat × Nat)} {ws : List Cond} {rm : Room} {Pc : Array Value → State → Prop} {Qc : Array Value → State → Outcome → State → Prop} {free : Addr → Prop} {Ts : List Cond} {own C : String} {b : Addr} {As rest : List Value} {g : JFrame}
    (S : CallFix p m c cc nL s args Ts own) (hM : Met l y ws rm Pc Qc mc ms free) (cw : vx_CVW R s args own C index y bytes maxL ret hh ws rm mc ms n) (hp : PreV s H C b Pc As)
    (hg : g.method = m) (hn : As.length = n) (hsize : g.locals.size = nL) (hstack : g.stack = As.reverse ++ .ref b :: rest) (hW : 2 * g.monitorRoom + (rest.map fun v => v.category).sum ≤ 8) (hdg : decode cc g.pc = .ok (.invokevirtual index, 3)) (hf : cells + mc ≤ R.cells ∧ slots + ms ≤ R.slots) :
    va_Run p l e R s m args below meth c H locs cells slots mc ms g rest (Qc (Value.ref b :: As).toArray) free := by
  obtain ⟨⟨hrc, hrs, hfr, hlo, hws, hcw⟩, hcode, hini, hy, hlen, hl, hin, hse⟩ := cw
  have hK : Back l R p e below s args y 3 8 (PreOf R mc ms Pc) (PostOf Qc mc ms free) := va_backW (hh := hh) (bytes := bytes) (maxL := maxL) (ret := ret) hM hp.1 hrc hrs hfr hlo hws hcw (fun a' U hW => word_at hW (Or.inl (by first | rfl | simp [Cond.onTables, Cond.keeps, Cond.steady])) hini)
  obtain ⟨hx, hb, hml, ho, -⟩ := S
  obtain ⟨-, ⟨cellB, hcB, hoB, hclB⟩, hPc⟩ := hp
  intro T hT X
  obtain ⟨v, vm₁, ⟨U', l2, c2, s2⟩, hW₁, X', ⟨g', mk, t, L, e1, e2, hq, h1, hL, h2, h3⟩, st⟩ := vx_callVW X hx (C := C) (hh := hh) (bytes := bytes) (maxL := maxL) (ret := ret) ho hl hin hse hcode hy hK (by rw [hT]; exact hcB) hoB hclB hg (hsize.trans hml.symm) (argsL := As) (rest := rest) (fun sig h => hn.trans (hlen sig h)) hstack hW (by rw [hb]; exact hdg)
    (fun vm₁ hW₁ => ⟨hf.1, hf.2, hPc (T.setVm vm₁) hT hW₁⟩)
  dsimp only [Pt.U, Pt.locs, Pt.cells, Pt.slots] at X' e1 e2 h1 h2 h3 st
  subst h1; subst h2; subst h3
  exact ⟨v, (T.setVm vm₁).calling g' mk (Value.ref b :: As).toArray, t, U', L, hT, X', hL, e1, e2, hq, st⟩
section
variable {y : MethodName} {bytes cc : ByteArray} {maxL nL mc ms n index : Nat} {ret : Option FieldType} {ws : List Cond} {rm : Room} {Pc : Array Value → State → Prop} {Qc : Array Value → State → Outcome → State → Prop} {XC : String → State → State → Prop} {free : Addr → Prop} {Ts : List Cond} {own C : String} {b : Addr} {As rest : List Value} {g : JFrame}
theorem vx_runVX {hh : List (Nat × Nat × Nat × Nat)} (S : CallFix p m c cc nL s args Ts own) (hM : vx_Met l y ws rm Pc Qc XC mc ms free) (cw : vx_CVW R s args own C index y bytes maxL ret hh ws rm mc ms n) (hp : PreV s H C b Pc As)
    (hg : g.method = m) (hn : As.length = n) (hsize : g.locals.size = nL) (hstack : g.stack = As.reverse ++ .ref b :: rest) (hW : 2 * g.monitorRoom + (rest.map fun v => v.category).sum ≤ 8) (hdg : decode cc g.pc = .ok (.invokevirtual index, 3)) (hf : cells + mc ≤ R.cells ∧ slots + ms ≤ R.slots) :
    vx_Run p l e R s m args below meth c H locs cells slots mc ms g rest (Qc (Value.ref b :: As).toArray) XC free := by
  obtain ⟨⟨hrc, hrs, hfr, hlo, hws, hcw⟩, hcode, hini, hy, hlen, hl, hin, hse⟩ := cw
  have hK : vx_Back l R p e below s args y 3 8 (PreOf R mc ms Pc) (PostOf Qc mc ms free) (vx_Post XC mc ms free) := vx_backW (hh := hh) (bytes := bytes) (maxL := maxL) (ret := ret) hM hp.1 hrc hrs hfr hlo hws hcw (fun a' U hW => word_at hW (Or.inl (by first | rfl | simp [Cond.onTables, Cond.keeps, Cond.steady])) hini)
  obtain ⟨hx, hb, hml, ho, -⟩ := S
  obtain ⟨-, ⟨cellB, hcB, hoB, hclB⟩, hPc⟩ := hp
  intro T hT X
  rcases vx_callVX X hx (C := C) (hh := hh) (bytes := bytes) (maxL := maxL) (ret := ret) ho hl hin hse hcode hy hK (by rw [hT]; exact hcB) hoB hclB hg (hsize.trans hml.symm) (argsL := As) (rest := rest) (fun sig h => hn.trans (hlen sig h)) hstack hW (by rw [hb]; exact hdg)
    (fun vm₁ hW₁ => ⟨hf.1, hf.2, hPc (T.setVm vm₁) hT hW₁⟩) with ⟨v, vm₁, ⟨U', l2, c2, s2⟩, hW₁, X', ⟨g', mk, t, L, e1, e2, hq, h1, hL, h2, h3⟩, st⟩ | ⟨q, vm₁, ⟨U', l2, c2, s2⟩, hW₁, X', ⟨g', mk, t, L, E, ce, e1, e2, hq, hce, hcv, hcl, h1, hL, h2, h3⟩, st⟩
  · dsimp only [Pt.U, Pt.locs, Pt.cells, Pt.slots] at X' e1 e2 h1 h2 h3 st
    subst h1; subst h2; subst h3
    exact Or.inl ⟨v, (T.setVm vm₁).calling g' mk (Value.ref b :: As).toArray, t, U', L, hT, X', hL, e1, e2, hq, st⟩
  · dsimp only [Pt.U, Pt.locs, Pt.cells, Pt.slots] at X' e1 e2 h1 h2 h3 st hcl
    subst h1; subst h2; subst h3
    exact Or.inr ⟨q, (T.setVm vm₁).calling g' mk (Value.ref b :: As).toArray, t, U', L, E, ce, hT, X', hL, e1, e2, hq, hce, hcv, vx_cls hW₁ hcl, st⟩
theorem vx_runSX {hh : List (Nat × Nat × Nat × Nat)} (S : CallFix p m c cc nL s args Ts own) (hM : vx_Met l y ws rm Pc Qc XC mc ms free) (cw : vx_CSW R s args own index y bytes maxL ret hh ws rm mc ms n) (hp : PreS s H Pc As)
    (hg : g.method = m) (hn : As.length = n) (hsize : g.locals.size = nL) (hstack : g.stack = As.reverse ++ rest) (hW : 2 * g.monitorRoom + (rest.map fun v => v.category).sum ≤ 8) (hdg : decode cc g.pc = .ok (.invokestatic index, 3)) (hf : cells + mc ≤ R.cells ∧ slots + ms ≤ R.slots) :
    vx_Run p l e R s m args below meth c H locs cells slots mc ms g rest (Qc As.toArray) XC free := by
  obtain ⟨⟨hrc, hrs, hfr, hlo, hws, hcw⟩, hcode, hini, hy, hlen, hl, hstt⟩ := cw
  have hK : vx_Back l R p e below s args y 3 8 (PreOf R mc ms Pc) (PostOf Qc mc ms free) (vx_Post XC mc ms free) := vx_backW (hh := hh) (bytes := bytes) (maxL := maxL) (ret := ret) hM hp.1 hrc hrs hfr hlo hws hcw (fun a' U hW => word_at hW (Or.inl (by first | rfl | simp [Cond.onTables, Cond.keeps, Cond.steady])) hini)
  obtain ⟨hx, hb, hml, ho, -⟩ := S
  intro T hT X
  rcases vx_callSX X hx (hh := hh) (bytes := bytes) (maxL := maxL) (ret := ret) ho hl hstt hini hcode hy hK hg (hsize.trans hml.symm) (argsL := As) (rest := rest) (fun sig h => hn.trans (hlen sig h)) hstack hW (by rw [hb]; exact hdg)
    (fun vm₁ hW₁ => ⟨hf.1, hf.2, hp.2 (T.setVm vm₁) hT hW₁⟩) with ⟨v, vm₁, ⟨U', l2, c2, s2⟩, hW₁, X', ⟨g', mk, t, L, e1, e2, hq, h1, hL, h2, h3⟩, st⟩ | ⟨q, vm₁, ⟨U', l2, c2, s2⟩, hW₁, X', ⟨g', mk, t, L, E, ce, e1, e2, hq, hce, hcv, hcl, h1, hL, h2, h3⟩, st⟩
  · dsimp only [Pt.U, Pt.locs, Pt.cells, Pt.slots] at X' e1 e2 h1 h2 h3 st
    subst h1; subst h2; subst h3
    exact Or.inl ⟨v, (T.setVm vm₁).calling g' mk As.toArray, t, U', L, hT, X', hL, e1, e2, hq, st⟩
  · dsimp only [Pt.U, Pt.locs, Pt.cells, Pt.slots] at X' e1 e2 h1 h2 h3 st hcl
    subst h1; subst h2; subst h3
    exact Or.inr ⟨q, (T.setVm vm₁).calling g' mk As.toArray, t, U', L, E, ce, hT, X', hL, e1, e2, hq, hce, hcv, vx_cls hW₁ hcl, st⟩
end
end VXH
theorem vx_ofWH {l : Launch} {y : MethodName} {ws ws' : List Cond} {rm : Room} {Pc : Array Value → State → Prop} {Qc : Array Value → State → Outcome → State → Prop} {XC : String → State → State → Prop} {mc ms : Nat} {free : Addr → Prop} {cc : ByteArray} {maxL : Nat} {ret : Option FieldType} {hh : List (Nat × Nat × Nat × Nat)}
    (hy : plainName y.cls = true) (hw : ws = Cond.codeWith y cc maxL ret hh :: ws')
    (body : ∀ p e s m args below meth c s₁, BodyLoose p l y (headSpec ws rm) cc maxL ret e s m args below meth c s₁ → c.maxLocals = maxL → Pc args s →
      W p l e (headSpec ws rm).room s m args below meth c s.heap [] 0 0 (vx_MQ below Qc XC args s mc ms free) (entryFrame m args maxL)) : vx_Met l y ws rm Pc Qc XC mc ms free := by
  refine MetFree.of_bodyS (code := cc) (maxLocals := maxL) (ret := ret) hy ?_ ?_
  · intro args s m h hn
    obtain ⟨m9, meth, c, hn9, h1, h2, h3, h4, -, h5, h6, -⟩ := Cond.codeWith_spec (atoms_spec (ws := ws) h _ (by rw [hw]; exact List.mem_cons_self))
    cases hn.symm.trans hn9
    exact ⟨meth, c, h1, h2, h3, h4, h5, h6⟩
  · intro p e s m args below meth c s₁ B hml hP _
    have hh0 : s₁.heap = s.heap := by rw [B.state]; rfl
    obtain ⟨t, a1, o, b1, b2, b3⟩ := body p e s m args below meth c s₁ B hml hP s₁ hh0 (Stand.of_body B)
    exact ⟨t, o, a1, b1, b2, b3⟩
/-! ===== END ===== -/
end
section
/-! ===== BEGIN printed: names, fields, word lists, decode rows ===== -/
def RX0 : String := "BoxVault$Box"
def TX0 : u_T := fun k => match k with
  | 0 => ("BoxVault$Box", "state", "I", false)
  | 1 => ("BoxVault$Box", "holder", "I", false)
  | 2 => ("BoxVault$Box", "paidUpTo", "I", false)
  | 3 => ("BoxVault$Box", "unpaidDays", "I", false)
  | 4 => ("BoxVault$Box", "entries", "I", false)
  | 5 => ("BoxVault$Box", "willSought", "Z", false)
  | 6 => ("BoxVault$Box", "proxyCount", "I", false)
  | 7 => ("BoxVault$Box", "proxyPerson", "[I", true)
  | 8 => ("BoxVault$Box", "proxyFirst", "[I", true)
  | _ => ("BoxVault$Box", "proxyLast", "[I", true)
def tyX0 : Nat → FieldType := fun k => match k with
  | 0 => .int
  | 1 => .int
  | 2 => .int
  | 3 => .int
  | 4 => .int
  | 5 => .boolean
  | 6 => .int
  | 7 => .array .int
  | 8 => .array .int
  | _ => .array .int
abbrev wsX00 : List Cond := u_ws RX0 TX0 10
theorem nmX0 : ∀ a, a < 10 → ∀ b, b < 10 → a ≠ b → (TX0 a).2.1 ≠ (TX0 b).2.1 := by decide +kernel
theorem tyX0_ok : ∀ k, k < 10 → parseFieldDescriptor (TX0 k).2.2.1 = some (tyX0 k) := by decide +kernel
abbrev cX0_init : ByteArray := prog_2_method_1_code
def yX0_init : MethodName := ⟨RX0, "<init>", "()V"⟩
abbrev cX0_isFree : ByteArray := prog_2_method_2_code
def yX0_isFree : MethodName := ⟨RX0, "isFree", "()Z"⟩
abbrev cX0_isRented : ByteArray := prog_2_method_3_code
def yX0_isRented : MethodName := ⟨RX0, "isRented", "()Z"⟩
abbrev cX0_startRent : ByteArray := prog_2_method_4_code
def yX0_startRent : MethodName := ⟨RX0, "startRent", "(II)V"⟩
abbrev cX0_breakOpen : ByteArray := prog_2_method_5_code
def yX0_breakOpen : MethodName := ⟨RX0, "breakOpen", "(I)V"⟩
abbrev cX0_empty : ByteArray := prog_2_method_6_code
def yX0_empty : MethodName := ⟨RX0, "empty", "()V"⟩
abbrev cX0_overdueOn : ByteArray := prog_2_method_7_code
def yX0_overdueOn : MethodName := ⟨RX0, "overdueOn", "(I)I"⟩
abbrev cX0_noticesOn : ByteArray := prog_2_method_8_code
def yX0_noticesOn : MethodName := ⟨RX0, "noticesOn", "(I)I"⟩
abbrev cX0_addProxy : ByteArray := prog_2_method_9_code
def yX0_addProxy : MethodName := ⟨RX0, "addProxy", "(III)V"⟩
abbrev cX0_endProxies : ByteArray := prog_2_method_10_code
def yX0_endProxies : MethodName := ⟨RX0, "endProxies", "()V"⟩
abbrev cX0_hasProxyOn : ByteArray := prog_2_method_11_code
def yX0_hasProxyOn : MethodName := ⟨RX0, "hasProxyOn", "(II)Z"⟩
def RX1 : String := "BoxVault$OrderBook"
def TX1 : u_T := fun k => match k with
  | 0 => ("BoxVault$OrderBook", "count", "I", false)
  | 1 => ("BoxVault$OrderBook", "box", "[I", true)
  | 2 => ("BoxVault$OrderBook", "court", "[I", true)
  | 3 => ("BoxVault$OrderBook", "kind", "[I", true)
  | 4 => ("BoxVault$OrderBook", "person", "[I", true)
  | _ => ("BoxVault$OrderBook", "holds", "[Z", true)
def tyX1 : Nat → FieldType := fun k => match k with
  | 0 => .int
  | 1 => .array .int
  | 2 => .array .int
  | 3 => .array .int
  | 4 => .array .int
  | _ => .array .boolean
abbrev wsX10 : List Cond := u_ws RX1 TX1 6
theorem nmX1 : ∀ a, a < 6 → ∀ b, b < 6 → a ≠ b → (TX1 a).2.1 ≠ (TX1 b).2.1 := by decide +kernel
theorem tyX1_ok : ∀ k, k < 6 → parseFieldDescriptor (TX1 k).2.2.1 = some (tyX1 k) := by decide +kernel
abbrev cX1_init : ByteArray := prog_3_method_1_code
def yX1_init : MethodName := ⟨RX1, "<init>", "()V"⟩
abbrev cX1_isFull : ByteArray := prog_3_method_2_code
def yX1_isFull : MethodName := ⟨RX1, "isFull", "()Z"⟩
abbrev cX1_has : ByteArray := prog_3_method_3_code
def yX1_has : MethodName := ⟨RX1, "has", "(I)Z"⟩
abbrev cX1_add : ByteArray := prog_3_method_4_code
def yX1_add : MethodName := ⟨RX1, "add", "(IIII)I"⟩
abbrev cX1_isInForce : ByteArray := prog_3_method_5_code
def yX1_isInForce : MethodName := ⟨RX1, "isInForce", "(I)Z"⟩
abbrev cX1_isBinding : ByteArray := prog_3_method_6_code
def yX1_isBinding : MethodName := ⟨RX1, "isBinding", "(I)Z"⟩
abbrev cX1_end : ByteArray := prog_3_method_7_code
def yX1_end : MethodName := ⟨RX1, "end", "(I)V"⟩
abbrev cX1_kindOf : ByteArray := prog_3_method_8_code
def yX1_kindOf : MethodName := ⟨RX1, "kindOf", "(I)I"⟩
abbrev cX1_personOf : ByteArray := prog_3_method_9_code
def yX1_personOf : MethodName := ⟨RX1, "personOf", "(I)I"⟩
abbrev cX1_bindingOn : ByteArray := prog_3_method_10_code
def yX1_bindingOn : MethodName := ⟨RX1, "bindingOn", "(I)I"⟩
abbrev cX1_endAllOn : ByteArray := prog_3_method_11_code
def yX1_endAllOn : MethodName := ⟨RX1, "endAllOn", "(I)V"⟩
def RX2 : String := "BoxVault"
def TX2 : u_T := fun k => match k with
  | 0 => ("BoxVault", "boxes", "[LBoxVault$Box;", true)
  | 1 => ("BoxVault", "orders", "LBoxVault$OrderBook;", true)
  | 2 => ("BoxVault", "dead", "[Z", true)
  | 3 => ("BoxVault", "heirs", "[I", true)
  | 4 => ("BoxVault", "refused", "[I", true)
  | _ => ("BoxVault", "today", "I", false)
def tyX2 : Nat → FieldType := fun k => match k with
  | 0 => .array (.object "BoxVault$Box")
  | 1 => .object "BoxVault$OrderBook"
  | 2 => .array .boolean
  | 3 => .array .int
  | 4 => .array .int
  | _ => .int
abbrev wsX20 : List Cond := u_ws RX2 TX2 6
theorem nmX2 : ∀ a, a < 6 → ∀ b, b < 6 → a ≠ b → (TX2 a).2.1 ≠ (TX2 b).2.1 := by decide +kernel
theorem tyX2_ok : ∀ k, k < 6 → parseFieldDescriptor (TX2 k).2.2.1 = some (tyX2 k) := by decide +kernel
abbrev cX2_init : ByteArray := prog_1_method_1_code
def yX2_init : MethodName := ⟨RX2, "<init>", "()V"⟩
abbrev cX2_pass : ByteArray := prog_1_method_2_code
def yX2_pass : MethodName := ⟨RX2, "pass", "(I)I"⟩
abbrev cX2_rent : ByteArray := prog_1_method_3_code
def yX2_rent : MethodName := ⟨RX2, "rent", "(III)I"⟩
abbrev cX2_extend : ByteArray := prog_1_method_4_code
def yX2_extend : MethodName := ⟨RX2, "extend", "(II)I"⟩
abbrev cX2_giveBack : ByteArray := prog_1_method_5_code
def yX2_giveBack : MethodName := ⟨RX2, "giveBack", "(II)I"⟩
abbrev cX2_drill : ByteArray := prog_1_method_6_code
def yX2_drill : MethodName := ⟨RX2, "drill", "(III)I"⟩
abbrev cX2_fetch : ByteArray := prog_1_method_7_code
def yX2_fetch : MethodName := ⟨RX2, "fetch", "(II)I"⟩
abbrev cX2_proxy : ByteArray := prog_1_method_8_code
def yX2_proxy : MethodName := ⟨RX2, "proxy", "(IIII)I"⟩
abbrev cX2_heir : ByteArray := prog_1_method_9_code
def yX2_heir : MethodName := ⟨RX2, "heir", "(IIZ)Z"⟩
abbrev cX2_die : ByteArray := prog_1_method_10_code
def yX2_die : MethodName := ⟨RX2, "die", "(I)I"⟩
abbrev cX2_order : ByteArray := prog_1_method_11_code
def yX2_order : MethodName := ⟨RX2, "order", "(IIII)I"⟩
abbrev cX2_lift : ByteArray := prog_1_method_12_code
def yX2_lift : MethodName := ⟨RX2, "lift", "(I)Z"⟩
abbrev cX2_enter : ByteArray := prog_1_method_13_code
def yX2_enter : MethodName := ⟨RX2, "enter", "(III)I"⟩
abbrev cX2_may : ByteArray := prog_1_method_14_code
def yX2_may : MethodName := ⟨RX2, "may", "(II)I"⟩
abbrev cX2_mayAll : ByteArray := prog_1_method_15_code
def yX2_mayAll : MethodName := ⟨RX2, "mayAll", "(I)I"⟩
abbrev cX2_holder : ByteArray := prog_1_method_16_code
def yX2_holder : MethodName := ⟨RX2, "holder", "(I)I"⟩
abbrev cX2_notices : ByteArray := prog_1_method_17_code
def yX2_notices : MethodName := ⟨RX2, "notices", "(I)I"⟩
abbrev cX2_refusals : ByteArray := prog_1_method_18_code
def yX2_refusals : MethodName := ⟨RX2, "refusals", "(I)I"⟩
abbrev cX2_binding : ByteArray := prog_1_method_19_code
def yX2_binding : MethodName := ⟨RX2, "binding", "(I)I"⟩
abbrev cX2_requireRange : ByteArray := prog_1_method_20_code
def yX2_requireRange : MethodName := ⟨RX2, "requireRange", "(III)V"⟩
abbrev cX2_requirePerson : ByteArray := prog_1_method_21_code
def yX2_requirePerson : MethodName := ⟨RX2, "requirePerson", "(I)V"⟩
abbrev cX2_requireRented : ByteArray := prog_1_method_22_code
def yX2_requireRented : MethodName := ⟨RX2, "requireRented", "(LBoxVault$Box;)V"⟩
abbrev cX2_boxAt : ByteArray := prog_1_method_23_code
def yX2_boxAt : MethodName := ⟨RX2, "boxAt", "(I)LBoxVault$Box;"⟩
abbrev cX2_isPerson : ByteArray := prog_1_method_24_code
def yX2_isPerson : MethodName := ⟨RX2, "isPerson", "(I)Z"⟩
abbrev cX2_isAlive : ByteArray := prog_1_method_25_code
def yX2_isAlive : MethodName := ⟨RX2, "isAlive", "(I)Z"⟩
abbrev cX2_isHeir : ByteArray := prog_1_method_26_code
def yX2_isHeir : MethodName := ⟨RX2, "isHeir", "(II)Z"⟩
abbrev cX2_isHeirOfDead : ByteArray := prog_1_method_27_code
def yX2_isHeirOfDead : MethodName := ⟨RX2, "isHeirOfDead", "(II)Z"⟩
abbrev cX2_canWitness : ByteArray := prog_1_method_28_code
def yX2_canWitness : MethodName := ⟨RX2, "canWitness", "(LBoxVault$Box;I)Z"⟩
abbrev cX2_rightOf : ByteArray := prog_1_method_29_code
def yX2_rightOf : MethodName := ⟨RX2, "rightOf", "(ILBoxVault$Box;I)I"⟩
abbrev cX2_orderAllows : ByteArray := prog_1_method_30_code
def yX2_orderAllows : MethodName := ⟨RX2, "orderAllows", "(ILBoxVault$Box;I)Z"⟩
abbrev cX2_holderAllows : ByteArray := prog_1_method_31_code
def yX2_holderAllows : MethodName := ⟨RX2, "holderAllows", "(LBoxVault$Box;I)Z"⟩
abbrev cX2_mayFetch : ByteArray := prog_1_method_32_code
def yX2_mayFetch : MethodName := ⟨RX2, "mayFetch", "(ILBoxVault$Box;I)Z"⟩
abbrev cX2_makeFree : ByteArray := prog_1_method_33_code
def yX2_makeFree : MethodName := ⟨RX2, "makeFree", "(ILBoxVault$Box;)V"⟩
def RX3 : String := "BoxVaultModel"
def TX3 : u_T := fun k => match k with
  | 0 => ("BoxVaultModel", "thrown", "I", false)
  | 1 => ("BoxVaultModel", "now", "I", false)
  | 2 => ("BoxVaultModel", "dead", "[Z", true)
  | 3 => ("BoxVaultModel", "heirs", "[I", true)
  | 4 => ("BoxVaultModel", "refusals", "[I", true)
  | 5 => ("BoxVaultModel", "state", "[I", true)
  | 6 => ("BoxVaultModel", "holder", "[I", true)
  | 7 => ("BoxVaultModel", "paid", "[I", true)
  | 8 => ("BoxVaultModel", "entries", "[I", true)
  | 9 => ("BoxVaultModel", "looked", "[Z", true)
  | 10 => ("BoxVaultModel", "owed", "[I", true)
  | 11 => ("BoxVaultModel", "proxies", "[I", true)
  | 12 => ("BoxVaultModel", "proxy", "[I", true)
  | 13 => ("BoxVaultModel", "from", "[I", true)
  | 14 => ("BoxVaultModel", "to", "[I", true)
  | 15 => ("BoxVaultModel", "orders", "I", false)
  | 16 => ("BoxVaultModel", "at", "[I", true)
  | 17 => ("BoxVaultModel", "court", "[I", true)
  | 18 => ("BoxVaultModel", "kind", "[I", true)
  | 19 => ("BoxVaultModel", "alone", "[I", true)
  | _ => ("BoxVaultModel", "holds", "[Z", true)
def tyX3 : Nat → FieldType := fun k => match k with
  | 0 => .int
  | 1 => .int
  | 2 => .array .boolean
  | 3 => .array .int
  | 4 => .array .int
  | 5 => .array .int
  | 6 => .array .int
  | 7 => .array .int
  | 8 => .array .int
  | 9 => .array .boolean
  | 10 => .array .int
  | 11 => .array .int
  | 12 => .array .int
  | 13 => .array .int
  | 14 => .array .int
  | 15 => .int
  | 16 => .array .int
  | 17 => .array .int
  | 18 => .array .int
  | 19 => .array .int
  | _ => .array .boolean
abbrev wsX30 : List Cond := u_ws RX3 TX3 21
theorem nmX3 : ∀ a, a < 21 → ∀ b, b < 21 → a ≠ b → (TX3 a).2.1 ≠ (TX3 b).2.1 := by decide +kernel
theorem tyX3_ok : ∀ k, k < 21 → parseFieldDescriptor (TX3 k).2.2.1 = some (tyX3 k) := by decide +kernel
abbrev cX3_init : ByteArray := prog_5_method_1_code
def yX3_init : MethodName := ⟨RX3, "<init>", "()V"⟩
abbrev cX3_thrown : ByteArray := prog_5_method_2_code
def yX3_thrown : MethodName := ⟨RX3, "thrown", "()I"⟩
abbrev cX3_fails : ByteArray := prog_5_method_3_code
def yX3_fails : MethodName := ⟨RX3, "fails", "(I)I"⟩
abbrev cX3_in : ByteArray := prog_5_method_4_code
def yX3_in : MethodName := ⟨RX3, "in", "(III)Z"⟩
abbrev cX3_isBox : ByteArray := prog_5_method_5_code
def yX3_isBox : MethodName := ⟨RX3, "isBox", "(I)Z"⟩
abbrev cX3_isPerson : ByteArray := prog_5_method_6_code
def yX3_isPerson : MethodName := ⟨RX3, "isPerson", "(I)Z"⟩
abbrev cX3_isRented : ByteArray := prog_5_method_7_code
def yX3_isRented : MethodName := ⟨RX3, "isRented", "(I)Z"⟩
abbrev cX3_overdue : ByteArray := prog_5_method_8_code
def yX3_overdue : MethodName := ⟨RX3, "overdue", "(I)I"⟩
abbrev cX3_noticesOf : ByteArray := prog_5_method_9_code
def yX3_noticesOf : MethodName := ⟨RX3, "noticesOf", "(I)I"⟩
abbrev cX3_binds : ByteArray := prog_5_method_10_code
def yX3_binds : MethodName := ⟨RX3, "binds", "(I)I"⟩
abbrev cX3_isHeir : ByteArray := prog_5_method_11_code
def yX3_isHeir : MethodName := ⟨RX3, "isHeir", "(II)Z"⟩
abbrev cX3_isOrdered : ByteArray := prog_5_method_12_code
def yX3_isOrdered : MethodName := ⟨RX3, "isOrdered", "(II)Z"⟩
abbrev cX3_isProxy : ByteArray := prog_5_method_13_code
def yX3_isProxy : MethodName := ⟨RX3, "isProxy", "(II)Z"⟩
abbrev cX3_right : ByteArray := prog_5_method_14_code
def yX3_right : MethodName := ⟨RX3, "right", "(II)I"⟩
abbrev cX3_frees : ByteArray := prog_5_method_15_code
def yX3_frees : MethodName := ⟨RX3, "frees", "(I)V"⟩
abbrev cX3_pass : ByteArray := prog_5_method_16_code
def yX3_pass : MethodName := ⟨RX3, "pass", "(I)I"⟩
abbrev cX3_rent : ByteArray := prog_5_method_17_code
def yX3_rent : MethodName := ⟨RX3, "rent", "(III)I"⟩
abbrev cX3_extend : ByteArray := prog_5_method_18_code
def yX3_extend : MethodName := ⟨RX3, "extend", "(II)I"⟩
abbrev cX3_giveBack : ByteArray := prog_5_method_19_code
def yX3_giveBack : MethodName := ⟨RX3, "giveBack", "(II)I"⟩
abbrev cX3_drill : ByteArray := prog_5_method_20_code
def yX3_drill : MethodName := ⟨RX3, "drill", "(III)I"⟩
abbrev cX3_fetch : ByteArray := prog_5_method_21_code
def yX3_fetch : MethodName := ⟨RX3, "fetch", "(II)I"⟩
abbrev cX3_proxy : ByteArray := prog_5_method_22_code
def yX3_proxy : MethodName := ⟨RX3, "proxy", "(IIII)I"⟩
abbrev cX3_heir : ByteArray := prog_5_method_23_code
def yX3_heir : MethodName := ⟨RX3, "heir", "(IIZ)Z"⟩
abbrev cX3_die : ByteArray := prog_5_method_24_code
def yX3_die : MethodName := ⟨RX3, "die", "(I)I"⟩
abbrev cX3_order : ByteArray := prog_5_method_25_code
def yX3_order : MethodName := ⟨RX3, "order", "(IIII)I"⟩
abbrev cX3_lift : ByteArray := prog_5_method_26_code
def yX3_lift : MethodName := ⟨RX3, "lift", "(I)Z"⟩
abbrev cX3_enter : ByteArray := prog_5_method_27_code
def yX3_enter : MethodName := ⟨RX3, "enter", "(III)I"⟩
abbrev cX3_may : ByteArray := prog_5_method_28_code
def yX3_may : MethodName := ⟨RX3, "may", "(II)I"⟩
abbrev cX3_mayAll : ByteArray := prog_5_method_29_code
def yX3_mayAll : MethodName := ⟨RX3, "mayAll", "(I)I"⟩
abbrev cX3_holder : ByteArray := prog_5_method_30_code
def yX3_holder : MethodName := ⟨RX3, "holder", "(I)I"⟩
abbrev cX3_notices : ByteArray := prog_5_method_31_code
def yX3_notices : MethodName := ⟨RX3, "notices", "(I)I"⟩
abbrev cX3_refusals : ByteArray := prog_5_method_32_code
def yX3_refusals : MethodName := ⟨RX3, "refusals", "(I)I"⟩
abbrev cX3_binding : ByteArray := prog_5_method_33_code
def yX3_binding : MethodName := ⟨RX3, "binding", "(I)I"⟩
def RJ9 : String := "java/lang/Math"
def TJ9 : u_T := fun k => match k with
  | _ => ("", "", "", false)
def tyJ9 : Nat → FieldType := fun k => match k with
  | _ => .int
abbrev wsJ90 : List Cond := u_ws RJ9 TJ9 0
theorem nmJ9 : ∀ a, a < 0 → ∀ b, b < 0 → a ≠ b → (TJ9 a).2.1 ≠ (TJ9 b).2.1 := by decide +kernel
theorem tyJ9_ok : ∀ k, k < 0 → parseFieldDescriptor (TJ9 k).2.2.1 = some (tyJ9 k) := by decide +kernel
abbrev cJ9_max_7cf53 : ByteArray := prog_10_method_65_code
def yJ9_max_7cf53 : MethodName := ⟨RJ9, "max", "(II)I"⟩
abbrev cJ9_min_7cf53 : ByteArray := prog_10_method_69_code
def yJ9_min_7cf53 : MethodName := ⟨RJ9, "min", "(II)I"⟩
def RJ0 : String := "java/lang/String"
def TJ0 : u_T := fun k => match k with
  | _ => ("", "", "", false)
def tyJ0 : Nat → FieldType := fun k => match k with
  | _ => .int
abbrev wsJ00 : List Cond := u_ws RJ0 TJ0 0
theorem nmJ0 : ∀ a, a < 0 → ∀ b, b < 0 → a ≠ b → (TJ0 a).2.1 ≠ (TJ0 b).2.1 := by decide +kernel
theorem tyJ0_ok : ∀ k, k < 0 → parseFieldDescriptor (TJ0 k).2.2.1 = some (tyJ0 k) := by decide +kernel
def RL : String := "BoxVaultLaw"
abbrev cL_pass : ByteArray := method_3_code
def yL_pass : MethodName := ⟨RL, "pass", "(LBoxVault;I[J)I"⟩
abbrev cL_rent : ByteArray := method_4_code
def yL_rent : MethodName := ⟨RL, "rent", "(LBoxVault;III[J)I"⟩
abbrev cL_extend : ByteArray := method_5_code
def yL_extend : MethodName := ⟨RL, "extend", "(LBoxVault;II[J)I"⟩
abbrev cL_giveBack : ByteArray := method_6_code
def yL_giveBack : MethodName := ⟨RL, "giveBack", "(LBoxVault;II[J)I"⟩
abbrev cL_drill : ByteArray := method_7_code
def yL_drill : MethodName := ⟨RL, "drill", "(LBoxVault;III[J)I"⟩
abbrev cL_fetch : ByteArray := method_8_code
def yL_fetch : MethodName := ⟨RL, "fetch", "(LBoxVault;II[J)I"⟩
abbrev cL_proxy : ByteArray := method_9_code
def yL_proxy : MethodName := ⟨RL, "proxy", "(LBoxVault;IIII[J)I"⟩
abbrev cL_heir : ByteArray := method_10_code
def yL_heir : MethodName := ⟨RL, "heir", "(LBoxVault;IIZ[J)I"⟩
abbrev cL_die : ByteArray := method_11_code
def yL_die : MethodName := ⟨RL, "die", "(LBoxVault;I[J)I"⟩
abbrev cL_order : ByteArray := method_12_code
def yL_order : MethodName := ⟨RL, "order", "(LBoxVault;IIII[J)I"⟩
abbrev cL_lift : ByteArray := method_13_code
def yL_lift : MethodName := ⟨RL, "lift", "(LBoxVault;I[J)I"⟩
abbrev cL_enter : ByteArray := method_14_code
def yL_enter : MethodName := ⟨RL, "enter", "(LBoxVault;III[J)I"⟩
abbrev cL_may : ByteArray := method_15_code
def yL_may : MethodName := ⟨RL, "may", "(LBoxVault;II[J)I"⟩
abbrev cL_mayAll : ByteArray := method_16_code
def yL_mayAll : MethodName := ⟨RL, "mayAll", "(LBoxVault;I[J)I"⟩
abbrev cL_holder : ByteArray := method_17_code
def yL_holder : MethodName := ⟨RL, "holder", "(LBoxVault;I[J)I"⟩
abbrev cL_notices : ByteArray := method_18_code
def yL_notices : MethodName := ⟨RL, "notices", "(LBoxVault;I[J)I"⟩
abbrev cL_refusals : ByteArray := method_19_code
def yL_refusals : MethodName := ⟨RL, "refusals", "(LBoxVault;I[J)I"⟩
abbrev cL_binding : ByteArray := method_20_code
def yL_binding : MethodName := ⟨RL, "binding", "(LBoxVault;I[J)I"⟩
abbrev cL_law : ByteArray := code
def yL_law : MethodName := ⟨RL, "law", "([I)Z"⟩
def wsX0_init : List Cond := .code yX0_init cX0_init 1 none :: ([.methodLink RX0 3 objectInit, .instanceMethod objectInit, .code objectInit ⟨#[0xb1]⟩ 1 none, .fieldLink RX0 11 "BoxVault$Box" "state" "I", .fieldLink RX0 15 "BoxVault$Box" "holder" "I", .fieldLink RX0 18 "BoxVault$Box" "paidUpTo" "I", .fieldLink RX0 21 "BoxVault$Box" "unpaidDays" "I", .fieldLink RX0 24 "BoxVault$Box" "entries" "I", .fieldLink RX0 27 "BoxVault$Box" "willSought" "Z", .fieldLink RX0 31 "BoxVault$Box" "proxyCount" "I", .arrayClass .int, .fieldLink RX0 34 "BoxVault$Box" "proxyPerson" "[I", .fieldLink RX0 38 "BoxVault$Box" "proxyFirst" "[I", .fieldLink RX0 41 "BoxVault$Box" "proxyLast" "[I"] ++ wsX00)
def wsX0_isFree : List Cond := .code yX0_isFree cX0_isFree 1 (some .boolean) :: ([.fieldLink RX0 11 "BoxVault$Box" "state" "I"] ++ wsX00)
def wsX0_isRented : List Cond := .code yX0_isRented cX0_isRented 1 (some .boolean) :: ([.fieldLink RX0 11 "BoxVault$Box" "state" "I"] ++ wsX00)
def wsX0_startRent : List Cond := .code yX0_startRent cX0_startRent 3 none :: ([.fieldLink RX0 11 "BoxVault$Box" "state" "I", .fieldLink RX0 15 "BoxVault$Box" "holder" "I", .fieldLink RX0 18 "BoxVault$Box" "paidUpTo" "I", .fieldLink RX0 24 "BoxVault$Box" "entries" "I", .fieldLink RX0 27 "BoxVault$Box" "willSought" "Z"] ++ wsX00)
def wsX0_overdueOn : List Cond := .code yX0_overdueOn cX0_overdueOn 2 (some .int) :: ([.fieldLink RX0 18 "BoxVault$Box" "paidUpTo" "I", .methodLink RX0 51 Lib.Math.max.name, .static Lib.Math.max.name, .initialized "java/lang/Math", .code Lib.Math.max.name Lib.Math.max.code 2 (some .int)] ++ wsX00)
def wsX0_breakOpen : List Cond := .code yX0_breakOpen cX0_breakOpen 2 none :: ([.fieldLink RX0 11 "BoxVault$Box" "state" "I", .fieldLink RX0 21 "BoxVault$Box" "unpaidDays" "I", .methodLink RX0 44 yX0_overdueOn, .instanceMethod yX0_overdueOn, .selects RX0 yX0_overdueOn yX0_overdueOn, .initialized RX0, .code yX0_overdueOn cX0_overdueOn 2 (some .int), .fieldLink RX0 18 "BoxVault$Box" "paidUpTo" "I", .methodLink RX0 51 Lib.Math.max.name, .static Lib.Math.max.name, .initialized "java/lang/Math", .code Lib.Math.max.name Lib.Math.max.code 2 (some .int)] ++ wsX00)
def wsX0_endProxies : List Cond := .code yX0_endProxies cX0_endProxies 1 none :: ([.fieldLink RX0 31 "BoxVault$Box" "proxyCount" "I"] ++ wsX00)
def wsX0_empty : List Cond := .code yX0_empty cX0_empty 1 none :: ([.fieldLink RX0 11 "BoxVault$Box" "state" "I", .fieldLink RX0 15 "BoxVault$Box" "holder" "I", .methodLink RX0 48 yX0_endProxies, .instanceMethod yX0_endProxies, .selects RX0 yX0_endProxies yX0_endProxies, .initialized RX0, .code yX0_endProxies cX0_endProxies 1 none, .fieldLink RX0 31 "BoxVault$Box" "proxyCount" "I"] ++ wsX00)
def wsX0_noticesOn : List Cond := .code yX0_noticesOn cX0_noticesOn 2 (some .int) :: ([.methodLink RX0 57 Lib.Math.min.name, .static Lib.Math.min.name, .initialized "java/lang/Math", .code Lib.Math.min.name Lib.Math.min.code 2 (some .int), .methodLink RX0 44 yX0_overdueOn, .instanceMethod yX0_overdueOn, .selects RX0 yX0_overdueOn yX0_overdueOn, .initialized RX0, .code yX0_overdueOn cX0_overdueOn 2 (some .int), .fieldLink RX0 18 "BoxVault$Box" "paidUpTo" "I", .methodLink RX0 51 Lib.Math.max.name, .static Lib.Math.max.name, .code Lib.Math.max.name Lib.Math.max.code 2 (some .int)] ++ wsX00)
def wsX0_addProxy : List Cond := .code yX0_addProxy cX0_addProxy 4 none :: ([.fieldLink RX0 31 "BoxVault$Box" "proxyCount" "I", .fieldLink RX0 34 "BoxVault$Box" "proxyPerson" "[I", .fieldLink RX0 38 "BoxVault$Box" "proxyFirst" "[I", .fieldLink RX0 41 "BoxVault$Box" "proxyLast" "[I"] ++ wsX00)
def wsX0_hasProxyOn : List Cond := .code yX0_hasProxyOn cX0_hasProxyOn 4 (some .boolean) :: ([.fieldLink RX0 31 "BoxVault$Box" "proxyCount" "I", .fieldLink RX0 34 "BoxVault$Box" "proxyPerson" "[I", .fieldLink RX0 38 "BoxVault$Box" "proxyFirst" "[I", .fieldLink RX0 41 "BoxVault$Box" "proxyLast" "[I"] ++ wsX00)
def wsX1_init : List Cond := .code yX1_init cX1_init 1 none :: ([.methodLink RX1 3 objectInit, .instanceMethod objectInit, .code objectInit ⟨#[0xb1]⟩ 1 none, .fieldLink RX1 9 "BoxVault$OrderBook" "count" "I", .arrayClass .int, .fieldLink RX1 15 "BoxVault$OrderBook" "box" "[I", .fieldLink RX1 19 "BoxVault$OrderBook" "court" "[I", .fieldLink RX1 22 "BoxVault$OrderBook" "kind" "[I", .fieldLink RX1 25 "BoxVault$OrderBook" "person" "[I", .arrayClass .boolean, .fieldLink RX1 28 "BoxVault$OrderBook" "holds" "[Z"] ++ wsX10)
def wsX1_isFull : List Cond := .code yX1_isFull cX1_isFull 1 (some .boolean) :: ([.fieldLink RX1 9 "BoxVault$OrderBook" "count" "I"] ++ wsX10)
def wsX1_has : List Cond := .code yX1_has cX1_has 2 (some .boolean) :: ([.fieldLink RX1 9 "BoxVault$OrderBook" "count" "I"] ++ wsX10)
def wsX1_add : List Cond := .code yX1_add cX1_add 6 (some .int) :: ([.fieldLink RX1 9 "BoxVault$OrderBook" "count" "I", .fieldLink RX1 15 "BoxVault$OrderBook" "box" "[I", .fieldLink RX1 19 "BoxVault$OrderBook" "court" "[I", .fieldLink RX1 22 "BoxVault$OrderBook" "kind" "[I", .fieldLink RX1 25 "BoxVault$OrderBook" "person" "[I", .fieldLink RX1 28 "BoxVault$OrderBook" "holds" "[Z"] ++ wsX10)
def wsX1_isInForce : List Cond := .code yX1_isInForce cX1_isInForce 2 (some .boolean) :: ([.fieldLink RX1 28 "BoxVault$OrderBook" "holds" "[Z", .methodLink RX1 32 yX1_has, .instanceMethod yX1_has, .selects RX1 yX1_has yX1_has, .initialized RX1, .code yX1_has cX1_has 2 (some .boolean), .fieldLink RX1 9 "BoxVault$OrderBook" "count" "I"] ++ wsX10)
def wsX1_bindingOn : List Cond := .code yX1_bindingOn cX1_bindingOn 4 (some .int) :: ([.fieldLink RX1 9 "BoxVault$OrderBook" "count" "I", .fieldLink RX1 28 "BoxVault$OrderBook" "holds" "[Z", .fieldLink RX1 15 "BoxVault$OrderBook" "box" "[I", .fieldLink RX1 19 "BoxVault$OrderBook" "court" "[I"] ++ wsX10)
def wsX1_isBinding : List Cond := .code yX1_isBinding cX1_isBinding 2 (some .boolean) :: ([.fieldLink RX1 15 "BoxVault$OrderBook" "box" "[I", .methodLink RX1 32 yX1_has, .instanceMethod yX1_has, .selects RX1 yX1_has yX1_has, .initialized RX1, .code yX1_has cX1_has 2 (some .boolean), .fieldLink RX1 9 "BoxVault$OrderBook" "count" "I", .methodLink RX1 36 yX1_bindingOn, .instanceMethod yX1_bindingOn, .selects RX1 yX1_bindingOn yX1_bindingOn, .code yX1_bindingOn cX1_bindingOn 4 (some .int), .fieldLink RX1 28 "BoxVault$OrderBook" "holds" "[Z", .fieldLink RX1 19 "BoxVault$OrderBook" "court" "[I"] ++ wsX10)
def wsX1_end : List Cond := .code yX1_end cX1_end 2 none :: ([.fieldLink RX1 28 "BoxVault$OrderBook" "holds" "[Z", .methodLink RX1 32 yX1_has, .instanceMethod yX1_has, .selects RX1 yX1_has yX1_has, .initialized RX1, .code yX1_has cX1_has 2 (some .boolean), .fieldLink RX1 9 "BoxVault$OrderBook" "count" "I"] ++ wsX10)
def wsX1_kindOf : List Cond := .code yX1_kindOf cX1_kindOf 2 (some .int) :: ([.fieldLink RX1 22 "BoxVault$OrderBook" "kind" "[I", .methodLink RX1 32 yX1_has, .instanceMethod yX1_has, .selects RX1 yX1_has yX1_has, .initialized RX1, .code yX1_has cX1_has 2 (some .boolean), .fieldLink RX1 9 "BoxVault$OrderBook" "count" "I"] ++ wsX10)
def wsX1_personOf : List Cond := .code yX1_personOf cX1_personOf 2 (some .int) :: ([.fieldLink RX1 25 "BoxVault$OrderBook" "person" "[I", .methodLink RX1 32 yX1_has, .instanceMethod yX1_has, .selects RX1 yX1_has yX1_has, .initialized RX1, .code yX1_has cX1_has 2 (some .boolean), .fieldLink RX1 9 "BoxVault$OrderBook" "count" "I"] ++ wsX10)
def wsX1_endAllOn : List Cond := .code yX1_endAllOn cX1_endAllOn 3 none :: ([.fieldLink RX1 9 "BoxVault$OrderBook" "count" "I", .fieldLink RX1 15 "BoxVault$OrderBook" "box" "[I", .fieldLink RX1 28 "BoxVault$OrderBook" "holds" "[Z"] ++ wsX10)
def wsX2_init_r1 : List Cond := [Cond.methodLink RX2 1 objectInit, Cond.instanceMethod objectInit, Cond.code objectInit ⟨#[0xb1]⟩ 1 none, Cond.classLink RX2 9 RX0, Cond.fieldLink RX2 11 "BoxVault" "boxes" "[LBoxVault$Box;", Cond.classLink RX2 15 RX1, Cond.instantiable RX1 6, Cond.initialized RX1, Cond.fieldLink RX2 18 "BoxVault" "orders" "LBoxVault$OrderBook;", Cond.arrayClass .boolean, Cond.fieldLink RX2 22 "BoxVault" "dead" "[Z", Cond.arrayClass .int, Cond.fieldLink RX2 26 "BoxVault" "heirs" "[I", Cond.fieldLink RX2 30 "BoxVault" "refused" "[I", Cond.fieldLink RX2 33 "BoxVault" "today" "I", Cond.instantiable RX0 10, Cond.initialized RX0, Cond.instanceMethod yX1_init, Cond.code yX1_init cX1_init 1 none, Cond.methodLink RX1 3 objectInit, Cond.fieldLink RX1 9 "BoxVault$OrderBook" "count" "I", Cond.fieldLink RX1 15 "BoxVault$OrderBook" "box" "[I", Cond.fieldLink RX1 19 "BoxVault$OrderBook" "court" "[I", Cond.fieldLink RX1 22 "BoxVault$OrderBook" "kind" "[I"]
def wsX2_init_r2 : List Cond := [Cond.fieldLink RX1 25 "BoxVault$OrderBook" "person" "[I", Cond.fieldLink RX1 28 "BoxVault$OrderBook" "holds" "[Z", Cond.instanceMethod yX0_init, Cond.code yX0_init cX0_init 1 none, Cond.methodLink RX0 3 objectInit, Cond.fieldLink RX0 11 "BoxVault$Box" "state" "I", Cond.fieldLink RX0 15 "BoxVault$Box" "holder" "I", Cond.fieldLink RX0 18 "BoxVault$Box" "paidUpTo" "I", Cond.fieldLink RX0 21 "BoxVault$Box" "unpaidDays" "I", Cond.fieldLink RX0 24 "BoxVault$Box" "entries" "I", Cond.fieldLink RX0 27 "BoxVault$Box" "willSought" "Z", Cond.fieldLink RX0 31 "BoxVault$Box" "proxyCount" "I", Cond.fieldLink RX0 34 "BoxVault$Box" "proxyPerson" "[I", Cond.fieldLink RX0 38 "BoxVault$Box" "proxyFirst" "[I", Cond.fieldLink RX0 41 "BoxVault$Box" "proxyLast" "[I"]
def wsX2_init : List Cond := .code yX2_init cX2_init 2 none :: ((wsX2_init_r1 ++ wsX2_init_r2) ++ wsX20 ++ wsX10 ++ wsX00)
def wsX2_requireRange : List Cond := .code yX2_requireRange cX2_requireRange 3 none :: ([.classLink RX2 94 "java/lang/IllegalArgumentException", .initialized "java/lang/IllegalArgumentException"] ++ (vx_atS RX2 98 "java/lang/IllegalArgumentException" ["java/lang/RuntimeException", "java/lang/Exception"]).filter goodWord)
def wsX2_pass : List Cond := .code yX2_pass cX2_pass 2 (some .int) :: ([.classLink RX2 43 "java/lang/IllegalStateException", .initialized "java/lang/IllegalStateException", .constant RX2 42 (99999), .fieldLink RX2 33 "BoxVault" "today" "I", .methodLink RX2 38 yX2_requireRange, .static yX2_requireRange, .initialized RX2, .code yX2_requireRange cX2_requireRange 3 none, .classLink RX2 94 "java/lang/IllegalArgumentException", .initialized "java/lang/IllegalArgumentException"] ++ wsX20 ++ (vx_atS RX2 47 "java/lang/IllegalStateException" ["java/lang/RuntimeException", "java/lang/Exception"]).filter goodWord ++ (vx_atS RX2 98 "java/lang/IllegalArgumentException" ["java/lang/RuntimeException", "java/lang/Exception"]).filter goodWord)
def wsX2_boxAt : List Cond := .code yX2_boxAt cX2_boxAt 2 (some (.object "BoxVault$Box")) :: ([.fieldLink RX2 11 "BoxVault" "boxes" "[LBoxVault$Box;", .methodLink RX2 38 yX2_requireRange, .static yX2_requireRange, .initialized RX2, .code yX2_requireRange cX2_requireRange 3 none, .classLink RX2 94 "java/lang/IllegalArgumentException", .initialized "java/lang/IllegalArgumentException"] ++ wsX20 ++ (vx_atS RX2 98 "java/lang/IllegalArgumentException" ["java/lang/RuntimeException", "java/lang/Exception"]).filter goodWord)
def wsX2_requirePerson : List Cond := .code yX2_requirePerson cX2_requirePerson 1 none :: ([.methodLink RX2 38 yX2_requireRange, .static yX2_requireRange, .initialized RX2, .code yX2_requireRange cX2_requireRange 3 none, .classLink RX2 94 "java/lang/IllegalArgumentException", .initialized "java/lang/IllegalArgumentException"] ++ (vx_atS RX2 98 "java/lang/IllegalArgumentException" ["java/lang/RuntimeException", "java/lang/Exception"]).filter goodWord)
def wsX2_isPerson : List Cond := .code yX2_isPerson cX2_isPerson 1 (some .boolean) :: ([])
def wsX2_isAlive : List Cond := .code yX2_isAlive cX2_isAlive 2 (some .boolean) :: ([.fieldLink RX2 22 "BoxVault" "dead" "[Z", .methodLink RX2 201 yX2_isPerson, .static yX2_isPerson, .initialized RX2, .code yX2_isPerson cX2_isPerson 1 (some .boolean)] ++ wsX20)
def wsX2_rent_r1 : List Cond := [Cond.classLink RX2 43 "java/lang/IllegalStateException", Cond.initialized "java/lang/IllegalStateException", Cond.fieldLink RX2 33 "BoxVault" "today" "I", Cond.methodLink RX2 50 yX2_boxAt, Cond.instanceMethod yX2_boxAt, Cond.selects RX2 yX2_boxAt yX2_boxAt, Cond.initialized RX2, Cond.code yX2_boxAt cX2_boxAt 2 (some (.object "BoxVault$Box")), Cond.fieldLink RX2 11 "BoxVault" "boxes" "[LBoxVault$Box;", Cond.methodLink RX2 38 yX2_requireRange, Cond.static yX2_requireRange, Cond.code yX2_requireRange cX2_requireRange 3 none, Cond.classLink RX2 94 "java/lang/IllegalArgumentException", Cond.initialized "java/lang/IllegalArgumentException", Cond.methodLink RX2 54 yX2_requirePerson, Cond.static yX2_requirePerson, Cond.code yX2_requirePerson cX2_requirePerson 1 none, Cond.instanceMethod yX0_isFree, Cond.initialized RX0, Cond.selects RX0 yX0_isFree yX0_isFree, Cond.code yX0_isFree cX0_isFree 1 (some .boolean), Cond.fieldLink RX0 11 "BoxVault$Box" "state" "I", Cond.methodLink RX2 64 yX2_isAlive, Cond.instanceMethod yX2_isAlive]
def wsX2_rent_r2 : List Cond := [Cond.selects RX2 yX2_isAlive yX2_isAlive, Cond.code yX2_isAlive cX2_isAlive 2 (some .boolean), Cond.fieldLink RX2 22 "BoxVault" "dead" "[Z", Cond.methodLink RX2 201 yX2_isPerson, Cond.static yX2_isPerson, Cond.code yX2_isPerson cX2_isPerson 1 (some .boolean), Cond.instanceMethod yX0_startRent, Cond.selects RX0 yX0_startRent yX0_startRent, Cond.code yX0_startRent cX0_startRent 3 none, Cond.fieldLink RX0 15 "BoxVault$Box" "holder" "I", Cond.fieldLink RX0 18 "BoxVault$Box" "paidUpTo" "I", Cond.fieldLink RX0 24 "BoxVault$Box" "entries" "I", Cond.fieldLink RX0 27 "BoxVault$Box" "willSought" "Z"]
def wsX2_rent : List Cond := .code yX2_rent cX2_rent 5 (some .int) :: ((wsX2_rent_r1 ++ wsX2_rent_r2) ++ wsX20 ++ wsX00 ++ (vx_atS RX2 47 "java/lang/IllegalStateException" ["java/lang/RuntimeException", "java/lang/Exception"]).filter goodWord ++ (vx_atS RX2 98 "java/lang/IllegalArgumentException" ["java/lang/RuntimeException", "java/lang/Exception"]).filter goodWord)
def wsX2_requireRented : List Cond := .code yX2_requireRented cX2_requireRented 1 none :: ([.classLink RX2 43 "java/lang/IllegalStateException", .initialized "java/lang/IllegalStateException", .instanceMethod yX0_isRented, .initialized RX0, .selects RX0 yX0_isRented yX0_isRented, .code yX0_isRented cX0_isRented 1 (some .boolean), .fieldLink RX0 11 "BoxVault$Box" "state" "I"] ++ wsX00 ++ (vx_atS RX2 47 "java/lang/IllegalStateException" ["java/lang/RuntimeException", "java/lang/Exception"]).filter goodWord)
def wsX2_extend : List Cond := .code yX2_extend cX2_extend 4 (some .int) :: ([.methodLink RX2 50 yX2_boxAt, .instanceMethod yX2_boxAt, .selects RX2 yX2_boxAt yX2_boxAt, .initialized RX2, .code yX2_boxAt cX2_boxAt 2 (some (.object "BoxVault$Box")), .fieldLink RX2 11 "BoxVault" "boxes" "[LBoxVault$Box;", .methodLink RX2 38 yX2_requireRange, .static yX2_requireRange, .code yX2_requireRange cX2_requireRange 3 none, .classLink RX2 94 "java/lang/IllegalArgumentException", .initialized "java/lang/IllegalArgumentException", .methodLink RX2 77 yX2_requireRented, .static yX2_requireRented, .code yX2_requireRented cX2_requireRented 1 none, .classLink RX2 43 "java/lang/IllegalStateException", .initialized "java/lang/IllegalStateException", .instanceMethod yX0_isRented, .initialized RX0, .selects RX0 yX0_isRented yX0_isRented, .code yX0_isRented cX0_isRented 1 (some .boolean), .fieldLink RX0 11 "BoxVault$Box" "state" "I"] ++ wsX00 ++ wsX20 ++ (vx_atS RX2 98 "java/lang/IllegalArgumentException" ["java/lang/RuntimeException", "java/lang/Exception"]).filter goodWord ++ (vx_atS RX2 47 "java/lang/IllegalStateException" ["java/lang/RuntimeException", "java/lang/Exception"]).filter goodWord)
def wsX2_isHeir : List Cond := .code yX2_isHeir cX2_isHeir 3 (some .boolean) :: ([.fieldLink RX2 26 "BoxVault" "heirs" "[I", .methodLink RX2 201 yX2_isPerson, .static yX2_isPerson, .initialized RX2, .code yX2_isPerson cX2_isPerson 1 (some .boolean)] ++ wsX20)
def wsX2_isHeirOfDead : List Cond := .code yX2_isHeirOfDead cX2_isHeirOfDead 3 (some .boolean) :: ([.methodLink RX2 64 yX2_isAlive, .instanceMethod yX2_isAlive, .selects RX2 yX2_isAlive yX2_isAlive, .initialized RX2, .code yX2_isAlive cX2_isAlive 2 (some .boolean), .fieldLink RX2 22 "BoxVault" "dead" "[Z", .methodLink RX2 201 yX2_isPerson, .static yX2_isPerson, .code yX2_isPerson cX2_isPerson 1 (some .boolean), .methodLink RX2 153 yX2_isHeir, .instanceMethod yX2_isHeir, .selects RX2 yX2_isHeir yX2_isHeir, .code yX2_isHeir cX2_isHeir 3 (some .boolean), .fieldLink RX2 26 "BoxVault" "heirs" "[I"] ++ wsX20)
def wsX2_orderAllows_r1 : List Cond := [Cond.fieldLink RX2 18 "BoxVault" "orders" "LBoxVault$OrderBook;", Cond.instanceMethod yX1_kindOf, Cond.initialized RX1, Cond.selects RX1 yX1_kindOf yX1_kindOf, Cond.code yX1_kindOf cX1_kindOf 2 (some .int), Cond.fieldLink RX1 22 "BoxVault$OrderBook" "kind" "[I", Cond.methodLink RX1 32 yX1_has, Cond.instanceMethod yX1_has, Cond.selects RX1 yX1_has yX1_has, Cond.code yX1_has cX1_has 2 (some .boolean), Cond.fieldLink RX1 9 "BoxVault$OrderBook" "count" "I", Cond.instanceMethod yX1_personOf, Cond.selects RX1 yX1_personOf yX1_personOf, Cond.code yX1_personOf cX1_personOf 2 (some .int), Cond.fieldLink RX1 25 "BoxVault$OrderBook" "person" "[I", Cond.methodLink RX2 213 yX2_isHeirOfDead, Cond.instanceMethod yX2_isHeirOfDead, Cond.selects RX2 yX2_isHeirOfDead yX2_isHeirOfDead, Cond.initialized RX2, Cond.code yX2_isHeirOfDead cX2_isHeirOfDead 3 (some .boolean), Cond.methodLink RX2 64 yX2_isAlive, Cond.instanceMethod yX2_isAlive, Cond.selects RX2 yX2_isAlive yX2_isAlive, Cond.code yX2_isAlive cX2_isAlive 2 (some .boolean)]
def wsX2_orderAllows_r2 : List Cond := [Cond.fieldLink RX2 22 "BoxVault" "dead" "[Z", Cond.methodLink RX2 201 yX2_isPerson, Cond.static yX2_isPerson, Cond.code yX2_isPerson cX2_isPerson 1 (some .boolean), Cond.methodLink RX2 153 yX2_isHeir, Cond.instanceMethod yX2_isHeir, Cond.selects RX2 yX2_isHeir yX2_isHeir, Cond.code yX2_isHeir cX2_isHeir 3 (some .boolean), Cond.fieldLink RX2 26 "BoxVault" "heirs" "[I"]
def wsX2_orderAllows : List Cond := .code yX2_orderAllows cX2_orderAllows 4 (some .boolean) :: ((wsX2_orderAllows_r1 ++ wsX2_orderAllows_r2) ++ wsX20 ++ wsX00 ++ wsX10)
def wsX2_holderAllows : List Cond := .code yX2_holderAllows cX2_holderAllows 3 (some .boolean) :: ([.fieldLink RX2 33 "BoxVault" "today" "I", .instanceMethod yX0_noticesOn, .initialized RX0, .selects RX0 yX0_noticesOn yX0_noticesOn, .code yX0_noticesOn cX0_noticesOn 2 (some .int), .methodLink RX0 57 Lib.Math.min.name, .static Lib.Math.min.name, .initialized "java/lang/Math", .code Lib.Math.min.name Lib.Math.min.code 2 (some .int), .methodLink RX0 44 yX0_overdueOn, .instanceMethod yX0_overdueOn, .selects RX0 yX0_overdueOn yX0_overdueOn, .code yX0_overdueOn cX0_overdueOn 2 (some .int), .fieldLink RX0 18 "BoxVault$Box" "paidUpTo" "I", .methodLink RX0 51 Lib.Math.max.name, .static Lib.Math.max.name, .code Lib.Math.max.name Lib.Math.max.code 2 (some .int), .instanceMethod yX0_hasProxyOn, .selects RX0 yX0_hasProxyOn yX0_hasProxyOn, .code yX0_hasProxyOn cX0_hasProxyOn 4 (some .boolean), .fieldLink RX0 31 "BoxVault$Box" "proxyCount" "I", .fieldLink RX0 34 "BoxVault$Box" "proxyPerson" "[I", .fieldLink RX0 38 "BoxVault$Box" "proxyFirst" "[I", .fieldLink RX0 41 "BoxVault$Box" "proxyLast" "[I"] ++ wsX20 ++ wsX00)
def wsX2_rightOf_r1 : List Cond := [Cond.fieldLink RX2 18 "BoxVault" "orders" "LBoxVault$OrderBook;", Cond.instanceMethod yX0_isRented, Cond.initialized RX0, Cond.selects RX0 yX0_isRented yX0_isRented, Cond.code yX0_isRented cX0_isRented 1 (some .boolean), Cond.fieldLink RX0 11 "BoxVault$Box" "state" "I", Cond.methodLink RX2 64 yX2_isAlive, Cond.instanceMethod yX2_isAlive, Cond.selects RX2 yX2_isAlive yX2_isAlive, Cond.initialized RX2, Cond.code yX2_isAlive cX2_isAlive 2 (some .boolean), Cond.fieldLink RX2 22 "BoxVault" "dead" "[Z", Cond.methodLink RX2 201 yX2_isPerson, Cond.static yX2_isPerson, Cond.code yX2_isPerson cX2_isPerson 1 (some .boolean), Cond.instanceMethod yX1_bindingOn, Cond.initialized RX1, Cond.selects RX1 yX1_bindingOn yX1_bindingOn, Cond.code yX1_bindingOn cX1_bindingOn 4 (some .int), Cond.fieldLink RX1 9 "BoxVault$OrderBook" "count" "I", Cond.fieldLink RX1 28 "BoxVault$OrderBook" "holds" "[Z", Cond.fieldLink RX1 15 "BoxVault$OrderBook" "box" "[I", Cond.fieldLink RX1 19 "BoxVault$OrderBook" "court" "[I", Cond.methodLink RX2 204 yX2_orderAllows]
def wsX2_rightOf_r2 : List Cond := [Cond.instanceMethod yX2_orderAllows, Cond.selects RX2 yX2_orderAllows yX2_orderAllows, Cond.code yX2_orderAllows cX2_orderAllows 4 (some .boolean), Cond.instanceMethod yX1_kindOf, Cond.selects RX1 yX1_kindOf yX1_kindOf, Cond.code yX1_kindOf cX1_kindOf 2 (some .int), Cond.fieldLink RX1 22 "BoxVault$OrderBook" "kind" "[I", Cond.methodLink RX1 32 yX1_has, Cond.instanceMethod yX1_has, Cond.selects RX1 yX1_has yX1_has, Cond.code yX1_has cX1_has 2 (some .boolean), Cond.instanceMethod yX1_personOf, Cond.selects RX1 yX1_personOf yX1_personOf, Cond.code yX1_personOf cX1_personOf 2 (some .int), Cond.fieldLink RX1 25 "BoxVault$OrderBook" "person" "[I", Cond.methodLink RX2 213 yX2_isHeirOfDead, Cond.instanceMethod yX2_isHeirOfDead, Cond.selects RX2 yX2_isHeirOfDead yX2_isHeirOfDead, Cond.code yX2_isHeirOfDead cX2_isHeirOfDead 3 (some .boolean), Cond.methodLink RX2 153 yX2_isHeir, Cond.instanceMethod yX2_isHeir, Cond.selects RX2 yX2_isHeir yX2_isHeir, Cond.code yX2_isHeir cX2_isHeir 3 (some .boolean), Cond.fieldLink RX2 26 "BoxVault" "heirs" "[I"]
def wsX2_rightOf_r3 : List Cond := [Cond.methodLink RX2 207 yX2_holderAllows, Cond.instanceMethod yX2_holderAllows, Cond.selects RX2 yX2_holderAllows yX2_holderAllows, Cond.code yX2_holderAllows cX2_holderAllows 3 (some .boolean), Cond.fieldLink RX2 33 "BoxVault" "today" "I", Cond.instanceMethod yX0_noticesOn, Cond.selects RX0 yX0_noticesOn yX0_noticesOn, Cond.code yX0_noticesOn cX0_noticesOn 2 (some .int), Cond.methodLink RX0 57 Lib.Math.min.name, Cond.static Lib.Math.min.name, Cond.initialized "java/lang/Math", Cond.code Lib.Math.min.name Lib.Math.min.code 2 (some .int), Cond.methodLink RX0 44 yX0_overdueOn, Cond.instanceMethod yX0_overdueOn, Cond.selects RX0 yX0_overdueOn yX0_overdueOn, Cond.code yX0_overdueOn cX0_overdueOn 2 (some .int), Cond.fieldLink RX0 18 "BoxVault$Box" "paidUpTo" "I", Cond.methodLink RX0 51 Lib.Math.max.name, Cond.static Lib.Math.max.name, Cond.code Lib.Math.max.name Lib.Math.max.code 2 (some .int), Cond.instanceMethod yX0_hasProxyOn, Cond.selects RX0 yX0_hasProxyOn yX0_hasProxyOn, Cond.code yX0_hasProxyOn cX0_hasProxyOn 4 (some .boolean), Cond.fieldLink RX0 31 "BoxVault$Box" "proxyCount" "I"]
def wsX2_rightOf_r4 : List Cond := [Cond.fieldLink RX0 34 "BoxVault$Box" "proxyPerson" "[I", Cond.fieldLink RX0 38 "BoxVault$Box" "proxyFirst" "[I", Cond.fieldLink RX0 41 "BoxVault$Box" "proxyLast" "[I"]
def wsX2_rightOf : List Cond := .code yX2_rightOf cX2_rightOf 5 (some .int) :: ((wsX2_rightOf_r1 ++ (wsX2_rightOf_r2 ++ (wsX2_rightOf_r3 ++ wsX2_rightOf_r4))) ++ wsX20 ++ wsX00 ++ wsX10)
def wsX2_makeFree : List Cond := .code yX2_makeFree cX2_makeFree 3 none :: ([.fieldLink RX2 18 "BoxVault" "orders" "LBoxVault$OrderBook;", .instanceMethod yX0_empty, .initialized RX0, .selects RX0 yX0_empty yX0_empty, .code yX0_empty cX0_empty 1 none, .fieldLink RX0 11 "BoxVault$Box" "state" "I", .fieldLink RX0 15 "BoxVault$Box" "holder" "I", .methodLink RX0 48 yX0_endProxies, .instanceMethod yX0_endProxies, .selects RX0 yX0_endProxies yX0_endProxies, .code yX0_endProxies cX0_endProxies 1 none, .fieldLink RX0 31 "BoxVault$Box" "proxyCount" "I", .instanceMethod yX1_endAllOn, .initialized RX1, .selects RX1 yX1_endAllOn yX1_endAllOn, .code yX1_endAllOn cX1_endAllOn 3 none, .fieldLink RX1 9 "BoxVault$OrderBook" "count" "I", .fieldLink RX1 15 "BoxVault$OrderBook" "box" "[I", .fieldLink RX1 28 "BoxVault$OrderBook" "holds" "[Z"] ++ wsX20 ++ wsX00 ++ wsX10)
def wsX2_giveBack_r1 : List Cond := [Cond.classLink RX2 43 "java/lang/IllegalStateException", Cond.initialized "java/lang/IllegalStateException", Cond.methodLink RX2 50 yX2_boxAt, Cond.instanceMethod yX2_boxAt, Cond.selects RX2 yX2_boxAt yX2_boxAt, Cond.initialized RX2, Cond.code yX2_boxAt cX2_boxAt 2 (some (.object "BoxVault$Box")), Cond.fieldLink RX2 11 "BoxVault" "boxes" "[LBoxVault$Box;", Cond.methodLink RX2 38 yX2_requireRange, Cond.static yX2_requireRange, Cond.code yX2_requireRange cX2_requireRange 3 none, Cond.classLink RX2 94 "java/lang/IllegalArgumentException", Cond.initialized "java/lang/IllegalArgumentException", Cond.methodLink RX2 54 yX2_requirePerson, Cond.static yX2_requirePerson, Cond.code yX2_requirePerson cX2_requirePerson 1 none, Cond.methodLink RX2 77 yX2_requireRented, Cond.static yX2_requireRented, Cond.code yX2_requireRented cX2_requireRented 1 none, Cond.instanceMethod yX0_isRented, Cond.initialized RX0, Cond.selects RX0 yX0_isRented yX0_isRented, Cond.code yX0_isRented cX0_isRented 1 (some .boolean), Cond.fieldLink RX0 11 "BoxVault$Box" "state" "I"]
def wsX2_giveBack_r2 : List Cond := [Cond.methodLink RX2 81 yX2_rightOf, Cond.instanceMethod yX2_rightOf, Cond.selects RX2 yX2_rightOf yX2_rightOf, Cond.code yX2_rightOf cX2_rightOf 5 (some .int), Cond.fieldLink RX2 18 "BoxVault" "orders" "LBoxVault$OrderBook;", Cond.methodLink RX2 64 yX2_isAlive, Cond.instanceMethod yX2_isAlive, Cond.selects RX2 yX2_isAlive yX2_isAlive, Cond.code yX2_isAlive cX2_isAlive 2 (some .boolean), Cond.fieldLink RX2 22 "BoxVault" "dead" "[Z", Cond.methodLink RX2 201 yX2_isPerson, Cond.static yX2_isPerson, Cond.code yX2_isPerson cX2_isPerson 1 (some .boolean), Cond.instanceMethod yX1_bindingOn, Cond.initialized RX1, Cond.selects RX1 yX1_bindingOn yX1_bindingOn, Cond.code yX1_bindingOn cX1_bindingOn 4 (some .int), Cond.fieldLink RX1 9 "BoxVault$OrderBook" "count" "I", Cond.fieldLink RX1 28 "BoxVault$OrderBook" "holds" "[Z", Cond.fieldLink RX1 15 "BoxVault$OrderBook" "box" "[I", Cond.fieldLink RX1 19 "BoxVault$OrderBook" "court" "[I", Cond.methodLink RX2 204 yX2_orderAllows, Cond.instanceMethod yX2_orderAllows, Cond.selects RX2 yX2_orderAllows yX2_orderAllows]
def wsX2_giveBack_r3 : List Cond := [Cond.code yX2_orderAllows cX2_orderAllows 4 (some .boolean), Cond.instanceMethod yX1_kindOf, Cond.selects RX1 yX1_kindOf yX1_kindOf, Cond.code yX1_kindOf cX1_kindOf 2 (some .int), Cond.fieldLink RX1 22 "BoxVault$OrderBook" "kind" "[I", Cond.methodLink RX1 32 yX1_has, Cond.instanceMethod yX1_has, Cond.selects RX1 yX1_has yX1_has, Cond.code yX1_has cX1_has 2 (some .boolean), Cond.instanceMethod yX1_personOf, Cond.selects RX1 yX1_personOf yX1_personOf, Cond.code yX1_personOf cX1_personOf 2 (some .int), Cond.fieldLink RX1 25 "BoxVault$OrderBook" "person" "[I", Cond.methodLink RX2 213 yX2_isHeirOfDead, Cond.instanceMethod yX2_isHeirOfDead, Cond.selects RX2 yX2_isHeirOfDead yX2_isHeirOfDead, Cond.code yX2_isHeirOfDead cX2_isHeirOfDead 3 (some .boolean), Cond.methodLink RX2 153 yX2_isHeir, Cond.instanceMethod yX2_isHeir, Cond.selects RX2 yX2_isHeir yX2_isHeir, Cond.code yX2_isHeir cX2_isHeir 3 (some .boolean), Cond.fieldLink RX2 26 "BoxVault" "heirs" "[I", Cond.methodLink RX2 207 yX2_holderAllows, Cond.instanceMethod yX2_holderAllows]
def wsX2_giveBack_r4 : List Cond := [Cond.selects RX2 yX2_holderAllows yX2_holderAllows, Cond.code yX2_holderAllows cX2_holderAllows 3 (some .boolean), Cond.fieldLink RX2 33 "BoxVault" "today" "I", Cond.instanceMethod yX0_noticesOn, Cond.selects RX0 yX0_noticesOn yX0_noticesOn, Cond.code yX0_noticesOn cX0_noticesOn 2 (some .int), Cond.methodLink RX0 57 Lib.Math.min.name, Cond.static Lib.Math.min.name, Cond.initialized "java/lang/Math", Cond.code Lib.Math.min.name Lib.Math.min.code 2 (some .int), Cond.methodLink RX0 44 yX0_overdueOn, Cond.instanceMethod yX0_overdueOn, Cond.selects RX0 yX0_overdueOn yX0_overdueOn, Cond.code yX0_overdueOn cX0_overdueOn 2 (some .int), Cond.fieldLink RX0 18 "BoxVault$Box" "paidUpTo" "I", Cond.methodLink RX0 51 Lib.Math.max.name, Cond.static Lib.Math.max.name, Cond.code Lib.Math.max.name Lib.Math.max.code 2 (some .int), Cond.instanceMethod yX0_hasProxyOn, Cond.selects RX0 yX0_hasProxyOn yX0_hasProxyOn, Cond.code yX0_hasProxyOn cX0_hasProxyOn 4 (some .boolean), Cond.fieldLink RX0 31 "BoxVault$Box" "proxyCount" "I", Cond.fieldLink RX0 34 "BoxVault$Box" "proxyPerson" "[I", Cond.fieldLink RX0 38 "BoxVault$Box" "proxyFirst" "[I"]
def wsX2_giveBack_r5 : List Cond := [Cond.fieldLink RX0 41 "BoxVault$Box" "proxyLast" "[I", Cond.methodLink RX2 90 yX2_makeFree, Cond.instanceMethod yX2_makeFree, Cond.selects RX2 yX2_makeFree yX2_makeFree, Cond.code yX2_makeFree cX2_makeFree 3 none, Cond.instanceMethod yX0_empty, Cond.selects RX0 yX0_empty yX0_empty, Cond.code yX0_empty cX0_empty 1 none, Cond.fieldLink RX0 15 "BoxVault$Box" "holder" "I", Cond.methodLink RX0 48 yX0_endProxies, Cond.instanceMethod yX0_endProxies, Cond.selects RX0 yX0_endProxies yX0_endProxies, Cond.code yX0_endProxies cX0_endProxies 1 none, Cond.instanceMethod yX1_endAllOn, Cond.selects RX1 yX1_endAllOn yX1_endAllOn, Cond.code yX1_endAllOn cX1_endAllOn 3 none]
def wsX2_giveBack : List Cond := .code yX2_giveBack cX2_giveBack 5 (some .int) :: ((wsX2_giveBack_r1 ++ (wsX2_giveBack_r2 ++ (wsX2_giveBack_r3 ++ (wsX2_giveBack_r4 ++ wsX2_giveBack_r5)))) ++ wsX00 ++ wsX20 ++ wsX10 ++ (vx_atS RX2 47 "java/lang/IllegalStateException" ["java/lang/RuntimeException", "java/lang/Exception"]).filter goodWord ++ (vx_atS RX2 98 "java/lang/IllegalArgumentException" ["java/lang/RuntimeException", "java/lang/Exception"]).filter goodWord)
def wsX2_canWitness : List Cond := .code yX2_canWitness cX2_canWitness 3 (some .boolean) :: ([.methodLink RX2 64 yX2_isAlive, .instanceMethod yX2_isAlive, .selects RX2 yX2_isAlive yX2_isAlive, .initialized RX2, .code yX2_isAlive cX2_isAlive 2 (some .boolean), .fieldLink RX2 22 "BoxVault" "dead" "[Z", .methodLink RX2 201 yX2_isPerson, .static yX2_isPerson, .code yX2_isPerson cX2_isPerson 1 (some .boolean)] ++ wsX00 ++ wsX20)
def wsX2_drill_r1 : List Cond := [Cond.classLink RX2 94 "java/lang/IllegalArgumentException", Cond.initialized "java/lang/IllegalArgumentException", Cond.classLink RX2 43 "java/lang/IllegalStateException", Cond.initialized "java/lang/IllegalStateException", Cond.fieldLink RX2 33 "BoxVault" "today" "I", Cond.fieldLink RX2 18 "BoxVault" "orders" "LBoxVault$OrderBook;", Cond.methodLink RX2 50 yX2_boxAt, Cond.instanceMethod yX2_boxAt, Cond.selects RX2 yX2_boxAt yX2_boxAt, Cond.initialized RX2, Cond.code yX2_boxAt cX2_boxAt 2 (some (.object "BoxVault$Box")), Cond.fieldLink RX2 11 "BoxVault" "boxes" "[LBoxVault$Box;", Cond.methodLink RX2 38 yX2_requireRange, Cond.static yX2_requireRange, Cond.code yX2_requireRange cX2_requireRange 3 none, Cond.methodLink RX2 54 yX2_requirePerson, Cond.static yX2_requirePerson, Cond.code yX2_requirePerson cX2_requirePerson 1 none, Cond.methodLink RX2 77 yX2_requireRented, Cond.static yX2_requireRented, Cond.code yX2_requireRented cX2_requireRented 1 none, Cond.instanceMethod yX0_isRented, Cond.initialized RX0, Cond.selects RX0 yX0_isRented yX0_isRented]
def wsX2_drill_r2 : List Cond := [Cond.code yX0_isRented cX0_isRented 1 (some .boolean), Cond.fieldLink RX0 11 "BoxVault$Box" "state" "I", Cond.instanceMethod yX0_noticesOn, Cond.selects RX0 yX0_noticesOn yX0_noticesOn, Cond.code yX0_noticesOn cX0_noticesOn 2 (some .int), Cond.methodLink RX0 57 Lib.Math.min.name, Cond.static Lib.Math.min.name, Cond.initialized "java/lang/Math", Cond.code Lib.Math.min.name Lib.Math.min.code 2 (some .int), Cond.methodLink RX0 44 yX0_overdueOn, Cond.instanceMethod yX0_overdueOn, Cond.selects RX0 yX0_overdueOn yX0_overdueOn, Cond.code yX0_overdueOn cX0_overdueOn 2 (some .int), Cond.fieldLink RX0 18 "BoxVault$Box" "paidUpTo" "I", Cond.methodLink RX0 51 Lib.Math.max.name, Cond.static Lib.Math.max.name, Cond.code Lib.Math.max.name Lib.Math.max.code 2 (some .int), Cond.methodLink RX2 105 yX2_canWitness, Cond.instanceMethod yX2_canWitness, Cond.selects RX2 yX2_canWitness yX2_canWitness, Cond.code yX2_canWitness cX2_canWitness 3 (some .boolean), Cond.methodLink RX2 64 yX2_isAlive, Cond.instanceMethod yX2_isAlive, Cond.selects RX2 yX2_isAlive yX2_isAlive]
def wsX2_drill_r3 : List Cond := [Cond.code yX2_isAlive cX2_isAlive 2 (some .boolean), Cond.fieldLink RX2 22 "BoxVault" "dead" "[Z", Cond.methodLink RX2 201 yX2_isPerson, Cond.static yX2_isPerson, Cond.code yX2_isPerson cX2_isPerson 1 (some .boolean), Cond.instanceMethod yX1_bindingOn, Cond.initialized RX1, Cond.selects RX1 yX1_bindingOn yX1_bindingOn, Cond.code yX1_bindingOn cX1_bindingOn 4 (some .int), Cond.fieldLink RX1 9 "BoxVault$OrderBook" "count" "I", Cond.fieldLink RX1 28 "BoxVault$OrderBook" "holds" "[Z", Cond.fieldLink RX1 15 "BoxVault$OrderBook" "box" "[I", Cond.fieldLink RX1 19 "BoxVault$OrderBook" "court" "[I", Cond.instanceMethod yX1_kindOf, Cond.selects RX1 yX1_kindOf yX1_kindOf, Cond.code yX1_kindOf cX1_kindOf 2 (some .int), Cond.fieldLink RX1 22 "BoxVault$OrderBook" "kind" "[I", Cond.methodLink RX1 32 yX1_has, Cond.instanceMethod yX1_has, Cond.selects RX1 yX1_has yX1_has, Cond.code yX1_has cX1_has 2 (some .boolean), Cond.instanceMethod yX0_breakOpen, Cond.selects RX0 yX0_breakOpen yX0_breakOpen, Cond.code yX0_breakOpen cX0_breakOpen 2 none]
def wsX2_drill_r4 : List Cond := [Cond.fieldLink RX0 21 "BoxVault$Box" "unpaidDays" "I"]
def wsX2_drill : List Cond := .code yX2_drill cX2_drill 5 (some .int) :: ((wsX2_drill_r1 ++ (wsX2_drill_r2 ++ (wsX2_drill_r3 ++ wsX2_drill_r4))) ++ wsX20 ++ wsX00 ++ wsX10 ++ (vx_atS RX2 98 "java/lang/IllegalArgumentException" ["java/lang/RuntimeException", "java/lang/Exception"]).filter goodWord ++ (vx_atS RX2 47 "java/lang/IllegalStateException" ["java/lang/RuntimeException", "java/lang/Exception"]).filter goodWord)
def wsX2_mayFetch_r1 : List Cond := [Cond.fieldLink RX2 18 "BoxVault" "orders" "LBoxVault$OrderBook;", Cond.methodLink RX2 64 yX2_isAlive, Cond.instanceMethod yX2_isAlive, Cond.selects RX2 yX2_isAlive yX2_isAlive, Cond.initialized RX2, Cond.code yX2_isAlive cX2_isAlive 2 (some .boolean), Cond.fieldLink RX2 22 "BoxVault" "dead" "[Z", Cond.methodLink RX2 201 yX2_isPerson, Cond.static yX2_isPerson, Cond.code yX2_isPerson cX2_isPerson 1 (some .boolean), Cond.instanceMethod yX1_bindingOn, Cond.initialized RX1, Cond.selects RX1 yX1_bindingOn yX1_bindingOn, Cond.code yX1_bindingOn cX1_bindingOn 4 (some .int), Cond.fieldLink RX1 9 "BoxVault$OrderBook" "count" "I", Cond.fieldLink RX1 28 "BoxVault$OrderBook" "holds" "[Z", Cond.fieldLink RX1 15 "BoxVault$OrderBook" "box" "[I", Cond.fieldLink RX1 19 "BoxVault$OrderBook" "court" "[I", Cond.methodLink RX2 204 yX2_orderAllows, Cond.instanceMethod yX2_orderAllows, Cond.selects RX2 yX2_orderAllows yX2_orderAllows, Cond.code yX2_orderAllows cX2_orderAllows 4 (some .boolean), Cond.instanceMethod yX1_kindOf, Cond.selects RX1 yX1_kindOf yX1_kindOf]
def wsX2_mayFetch_r2 : List Cond := [Cond.code yX1_kindOf cX1_kindOf 2 (some .int), Cond.fieldLink RX1 22 "BoxVault$OrderBook" "kind" "[I", Cond.methodLink RX1 32 yX1_has, Cond.instanceMethod yX1_has, Cond.selects RX1 yX1_has yX1_has, Cond.code yX1_has cX1_has 2 (some .boolean), Cond.instanceMethod yX1_personOf, Cond.selects RX1 yX1_personOf yX1_personOf, Cond.code yX1_personOf cX1_personOf 2 (some .int), Cond.fieldLink RX1 25 "BoxVault$OrderBook" "person" "[I", Cond.methodLink RX2 213 yX2_isHeirOfDead, Cond.instanceMethod yX2_isHeirOfDead, Cond.selects RX2 yX2_isHeirOfDead yX2_isHeirOfDead, Cond.code yX2_isHeirOfDead cX2_isHeirOfDead 3 (some .boolean), Cond.methodLink RX2 153 yX2_isHeir, Cond.instanceMethod yX2_isHeir, Cond.selects RX2 yX2_isHeir yX2_isHeir, Cond.code yX2_isHeir cX2_isHeir 3 (some .boolean), Cond.fieldLink RX2 26 "BoxVault" "heirs" "[I"]
def wsX2_mayFetch : List Cond := .code yX2_mayFetch cX2_mayFetch 5 (some .boolean) :: ((wsX2_mayFetch_r1 ++ wsX2_mayFetch_r2) ++ wsX20 ++ wsX00 ++ wsX10)
def wsX2_fetch_r1 : List Cond := [Cond.classLink RX2 43 "java/lang/IllegalStateException", Cond.initialized "java/lang/IllegalStateException", Cond.methodLink RX2 50 yX2_boxAt, Cond.instanceMethod yX2_boxAt, Cond.selects RX2 yX2_boxAt yX2_boxAt, Cond.initialized RX2, Cond.code yX2_boxAt cX2_boxAt 2 (some (.object "BoxVault$Box")), Cond.fieldLink RX2 11 "BoxVault" "boxes" "[LBoxVault$Box;", Cond.methodLink RX2 38 yX2_requireRange, Cond.static yX2_requireRange, Cond.code yX2_requireRange cX2_requireRange 3 none, Cond.classLink RX2 94 "java/lang/IllegalArgumentException", Cond.initialized "java/lang/IllegalArgumentException", Cond.methodLink RX2 54 yX2_requirePerson, Cond.static yX2_requirePerson, Cond.code yX2_requirePerson cX2_requirePerson 1 none, Cond.methodLink RX2 130 yX2_mayFetch, Cond.instanceMethod yX2_mayFetch, Cond.selects RX2 yX2_mayFetch yX2_mayFetch, Cond.code yX2_mayFetch cX2_mayFetch 5 (some .boolean), Cond.fieldLink RX2 18 "BoxVault" "orders" "LBoxVault$OrderBook;", Cond.methodLink RX2 64 yX2_isAlive, Cond.instanceMethod yX2_isAlive, Cond.selects RX2 yX2_isAlive yX2_isAlive]
def wsX2_fetch_r2 : List Cond := [Cond.code yX2_isAlive cX2_isAlive 2 (some .boolean), Cond.fieldLink RX2 22 "BoxVault" "dead" "[Z", Cond.methodLink RX2 201 yX2_isPerson, Cond.static yX2_isPerson, Cond.code yX2_isPerson cX2_isPerson 1 (some .boolean), Cond.instanceMethod yX1_bindingOn, Cond.initialized RX1, Cond.selects RX1 yX1_bindingOn yX1_bindingOn, Cond.code yX1_bindingOn cX1_bindingOn 4 (some .int), Cond.fieldLink RX1 9 "BoxVault$OrderBook" "count" "I", Cond.fieldLink RX1 28 "BoxVault$OrderBook" "holds" "[Z", Cond.fieldLink RX1 15 "BoxVault$OrderBook" "box" "[I", Cond.fieldLink RX1 19 "BoxVault$OrderBook" "court" "[I", Cond.methodLink RX2 204 yX2_orderAllows, Cond.instanceMethod yX2_orderAllows, Cond.selects RX2 yX2_orderAllows yX2_orderAllows, Cond.code yX2_orderAllows cX2_orderAllows 4 (some .boolean), Cond.instanceMethod yX1_kindOf, Cond.selects RX1 yX1_kindOf yX1_kindOf, Cond.code yX1_kindOf cX1_kindOf 2 (some .int), Cond.fieldLink RX1 22 "BoxVault$OrderBook" "kind" "[I", Cond.methodLink RX1 32 yX1_has, Cond.instanceMethod yX1_has, Cond.selects RX1 yX1_has yX1_has]
def wsX2_fetch_r3 : List Cond := [Cond.code yX1_has cX1_has 2 (some .boolean), Cond.instanceMethod yX1_personOf, Cond.selects RX1 yX1_personOf yX1_personOf, Cond.code yX1_personOf cX1_personOf 2 (some .int), Cond.fieldLink RX1 25 "BoxVault$OrderBook" "person" "[I", Cond.methodLink RX2 213 yX2_isHeirOfDead, Cond.instanceMethod yX2_isHeirOfDead, Cond.selects RX2 yX2_isHeirOfDead yX2_isHeirOfDead, Cond.code yX2_isHeirOfDead cX2_isHeirOfDead 3 (some .boolean), Cond.methodLink RX2 153 yX2_isHeir, Cond.instanceMethod yX2_isHeir, Cond.selects RX2 yX2_isHeir yX2_isHeir, Cond.code yX2_isHeir cX2_isHeir 3 (some .boolean), Cond.fieldLink RX2 26 "BoxVault" "heirs" "[I", Cond.methodLink RX2 90 yX2_makeFree, Cond.instanceMethod yX2_makeFree, Cond.selects RX2 yX2_makeFree yX2_makeFree, Cond.code yX2_makeFree cX2_makeFree 3 none, Cond.instanceMethod yX0_empty, Cond.initialized RX0, Cond.selects RX0 yX0_empty yX0_empty, Cond.code yX0_empty cX0_empty 1 none, Cond.fieldLink RX0 11 "BoxVault$Box" "state" "I", Cond.fieldLink RX0 15 "BoxVault$Box" "holder" "I"]
def wsX2_fetch_r4 : List Cond := [Cond.methodLink RX0 48 yX0_endProxies, Cond.instanceMethod yX0_endProxies, Cond.selects RX0 yX0_endProxies yX0_endProxies, Cond.code yX0_endProxies cX0_endProxies 1 none, Cond.fieldLink RX0 31 "BoxVault$Box" "proxyCount" "I", Cond.instanceMethod yX1_endAllOn, Cond.selects RX1 yX1_endAllOn yX1_endAllOn, Cond.code yX1_endAllOn cX1_endAllOn 3 none]
def wsX2_fetch : List Cond := .code yX2_fetch cX2_fetch 5 (some .int) :: ((wsX2_fetch_r1 ++ (wsX2_fetch_r2 ++ (wsX2_fetch_r3 ++ wsX2_fetch_r4))) ++ wsX00 ++ wsX20 ++ wsX10 ++ (vx_atS RX2 47 "java/lang/IllegalStateException" ["java/lang/RuntimeException", "java/lang/Exception"]).filter goodWord ++ (vx_atS RX2 98 "java/lang/IllegalArgumentException" ["java/lang/RuntimeException", "java/lang/Exception"]).filter goodWord)
def wsX2_proxy_r1 : List Cond := [Cond.classLink RX2 43 "java/lang/IllegalStateException", Cond.initialized "java/lang/IllegalStateException", Cond.constant RX2 42 (99999), Cond.methodLink RX2 50 yX2_boxAt, Cond.instanceMethod yX2_boxAt, Cond.selects RX2 yX2_boxAt yX2_boxAt, Cond.initialized RX2, Cond.code yX2_boxAt cX2_boxAt 2 (some (.object "BoxVault$Box")), Cond.fieldLink RX2 11 "BoxVault" "boxes" "[LBoxVault$Box;", Cond.methodLink RX2 38 yX2_requireRange, Cond.static yX2_requireRange, Cond.code yX2_requireRange cX2_requireRange 3 none, Cond.classLink RX2 94 "java/lang/IllegalArgumentException", Cond.initialized "java/lang/IllegalArgumentException", Cond.methodLink RX2 54 yX2_requirePerson, Cond.static yX2_requirePerson, Cond.code yX2_requirePerson cX2_requirePerson 1 none, Cond.methodLink RX2 77 yX2_requireRented, Cond.static yX2_requireRented, Cond.code yX2_requireRented cX2_requireRented 1 none, Cond.instanceMethod yX0_isRented, Cond.initialized RX0, Cond.selects RX0 yX0_isRented yX0_isRented, Cond.code yX0_isRented cX0_isRented 1 (some .boolean)]
def wsX2_proxy_r2 : List Cond := [Cond.fieldLink RX0 11 "BoxVault$Box" "state" "I", Cond.methodLink RX2 64 yX2_isAlive, Cond.instanceMethod yX2_isAlive, Cond.selects RX2 yX2_isAlive yX2_isAlive, Cond.code yX2_isAlive cX2_isAlive 2 (some .boolean), Cond.fieldLink RX2 22 "BoxVault" "dead" "[Z", Cond.methodLink RX2 201 yX2_isPerson, Cond.static yX2_isPerson, Cond.code yX2_isPerson cX2_isPerson 1 (some .boolean), Cond.instanceMethod yX0_addProxy, Cond.selects RX0 yX0_addProxy yX0_addProxy, Cond.code yX0_addProxy cX0_addProxy 4 none, Cond.fieldLink RX0 31 "BoxVault$Box" "proxyCount" "I", Cond.fieldLink RX0 34 "BoxVault$Box" "proxyPerson" "[I", Cond.fieldLink RX0 38 "BoxVault$Box" "proxyFirst" "[I", Cond.fieldLink RX0 41 "BoxVault$Box" "proxyLast" "[I"]
def wsX2_proxy : List Cond := .code yX2_proxy cX2_proxy 6 (some .int) :: ((wsX2_proxy_r1 ++ wsX2_proxy_r2) ++ wsX00 ++ wsX20 ++ (vx_atS RX2 47 "java/lang/IllegalStateException" ["java/lang/RuntimeException", "java/lang/Exception"]).filter goodWord ++ (vx_atS RX2 98 "java/lang/IllegalArgumentException" ["java/lang/RuntimeException", "java/lang/Exception"]).filter goodWord)
def wsX2_heir : List Cond := .code yX2_heir cX2_heir 6 (some .boolean) :: ([.classLink RX2 94 "java/lang/IllegalArgumentException", .initialized "java/lang/IllegalArgumentException", .fieldLink RX2 26 "BoxVault" "heirs" "[I", .methodLink RX2 54 yX2_requirePerson, .static yX2_requirePerson, .initialized RX2, .code yX2_requirePerson cX2_requirePerson 1 none, .methodLink RX2 38 yX2_requireRange, .static yX2_requireRange, .code yX2_requireRange cX2_requireRange 3 none, .methodLink RX2 153 yX2_isHeir, .instanceMethod yX2_isHeir, .selects RX2 yX2_isHeir yX2_isHeir, .code yX2_isHeir cX2_isHeir 3 (some .boolean), .methodLink RX2 201 yX2_isPerson, .static yX2_isPerson, .code yX2_isPerson cX2_isPerson 1 (some .boolean)] ++ wsX20 ++ (vx_atS RX2 98 "java/lang/IllegalArgumentException" ["java/lang/RuntimeException", "java/lang/Exception"]).filter goodWord)
def wsX2_die : List Cond := .code yX2_die cX2_die 4 (some .int) :: ([.classLink RX2 43 "java/lang/IllegalStateException", .initialized "java/lang/IllegalStateException", .fieldLink RX2 22 "BoxVault" "dead" "[Z", .fieldLink RX2 11 "BoxVault" "boxes" "[LBoxVault$Box;", .methodLink RX2 54 yX2_requirePerson, .static yX2_requirePerson, .initialized RX2, .code yX2_requirePerson cX2_requirePerson 1 none, .methodLink RX2 38 yX2_requireRange, .static yX2_requireRange, .code yX2_requireRange cX2_requireRange 3 none, .classLink RX2 94 "java/lang/IllegalArgumentException", .initialized "java/lang/IllegalArgumentException", .instanceMethod yX0_endProxies, .initialized RX0, .selects RX0 yX0_endProxies yX0_endProxies, .code yX0_endProxies cX0_endProxies 1 none, .fieldLink RX0 31 "BoxVault$Box" "proxyCount" "I", .instanceMethod yX0_isRented, .selects RX0 yX0_isRented yX0_isRented, .code yX0_isRented cX0_isRented 1 (some .boolean), .fieldLink RX0 11 "BoxVault$Box" "state" "I"] ++ wsX20 ++ wsX00 ++ (vx_atS RX2 47 "java/lang/IllegalStateException" ["java/lang/RuntimeException", "java/lang/Exception"]).filter goodWord ++ (vx_atS RX2 98 "java/lang/IllegalArgumentException" ["java/lang/RuntimeException", "java/lang/Exception"]).filter goodWord)
def wsX2_order_r1 : List Cond := [Cond.classLink RX2 43 "java/lang/IllegalStateException", Cond.initialized "java/lang/IllegalStateException", Cond.fieldLink RX2 18 "BoxVault" "orders" "LBoxVault$OrderBook;", Cond.methodLink RX2 50 yX2_boxAt, Cond.instanceMethod yX2_boxAt, Cond.selects RX2 yX2_boxAt yX2_boxAt, Cond.initialized RX2, Cond.code yX2_boxAt cX2_boxAt 2 (some (.object "BoxVault$Box")), Cond.fieldLink RX2 11 "BoxVault" "boxes" "[LBoxVault$Box;", Cond.methodLink RX2 38 yX2_requireRange, Cond.static yX2_requireRange, Cond.code yX2_requireRange cX2_requireRange 3 none, Cond.classLink RX2 94 "java/lang/IllegalArgumentException", Cond.initialized "java/lang/IllegalArgumentException", Cond.methodLink RX2 54 yX2_requirePerson, Cond.static yX2_requirePerson, Cond.code yX2_requirePerson cX2_requirePerson 1 none, Cond.instanceMethod yX0_isFree, Cond.initialized RX0, Cond.selects RX0 yX0_isFree yX0_isFree, Cond.code yX0_isFree cX0_isFree 1 (some .boolean), Cond.fieldLink RX0 11 "BoxVault$Box" "state" "I", Cond.instanceMethod yX1_isFull, Cond.initialized RX1]
def wsX2_order_r2 : List Cond := [Cond.selects RX1 yX1_isFull yX1_isFull, Cond.code yX1_isFull cX1_isFull 1 (some .boolean), Cond.fieldLink RX1 9 "BoxVault$OrderBook" "count" "I", Cond.instanceMethod yX1_add, Cond.selects RX1 yX1_add yX1_add, Cond.code yX1_add cX1_add 6 (some .int), Cond.fieldLink RX1 15 "BoxVault$OrderBook" "box" "[I", Cond.fieldLink RX1 19 "BoxVault$OrderBook" "court" "[I", Cond.fieldLink RX1 22 "BoxVault$OrderBook" "kind" "[I", Cond.fieldLink RX1 25 "BoxVault$OrderBook" "person" "[I", Cond.fieldLink RX1 28 "BoxVault$OrderBook" "holds" "[Z"]
def wsX2_order : List Cond := .code yX2_order cX2_order 6 (some .int) :: ((wsX2_order_r1 ++ wsX2_order_r2) ++ wsX20 ++ wsX00 ++ wsX10 ++ (vx_atS RX2 47 "java/lang/IllegalStateException" ["java/lang/RuntimeException", "java/lang/Exception"]).filter goodWord ++ (vx_atS RX2 98 "java/lang/IllegalArgumentException" ["java/lang/RuntimeException", "java/lang/Exception"]).filter goodWord)
def wsX2_lift_r1 : List Cond := [Cond.classLink RX2 177 "java/lang/IndexOutOfBoundsException", Cond.initialized "java/lang/IndexOutOfBoundsException", Cond.classLink RX2 43 "java/lang/IllegalStateException", Cond.initialized "java/lang/IllegalStateException", Cond.fieldLink RX2 18 "BoxVault" "orders" "LBoxVault$OrderBook;", Cond.instanceMethod yX1_has, Cond.initialized RX1, Cond.selects RX1 yX1_has yX1_has, Cond.code yX1_has cX1_has 2 (some .boolean), Cond.fieldLink RX1 9 "BoxVault$OrderBook" "count" "I", Cond.instanceMethod yX1_isInForce, Cond.selects RX1 yX1_isInForce yX1_isInForce, Cond.code yX1_isInForce cX1_isInForce 2 (some .boolean), Cond.fieldLink RX1 28 "BoxVault$OrderBook" "holds" "[Z", Cond.methodLink RX1 32 yX1_has, Cond.instanceMethod yX1_isBinding, Cond.selects RX1 yX1_isBinding yX1_isBinding, Cond.code yX1_isBinding cX1_isBinding 2 (some .boolean), Cond.fieldLink RX1 15 "BoxVault$OrderBook" "box" "[I", Cond.methodLink RX1 36 yX1_bindingOn, Cond.instanceMethod yX1_bindingOn, Cond.selects RX1 yX1_bindingOn yX1_bindingOn, Cond.code yX1_bindingOn cX1_bindingOn 4 (some .int), Cond.fieldLink RX1 19 "BoxVault$OrderBook" "court" "[I"]
def wsX2_lift_r2 : List Cond := [Cond.instanceMethod yX1_end, Cond.selects RX1 yX1_end yX1_end, Cond.code yX1_end cX1_end 2 none]
def wsX2_lift : List Cond := .code yX2_lift cX2_lift 3 (some .boolean) :: ((wsX2_lift_r1 ++ wsX2_lift_r2) ++ wsX20 ++ wsX10 ++ (vx_atS RX2 181 "java/lang/IndexOutOfBoundsException" ["java/lang/RuntimeException", "java/lang/Exception"]).filter goodWord ++ (vx_atS RX2 47 "java/lang/IllegalStateException" ["java/lang/RuntimeException", "java/lang/Exception"]).filter goodWord)
def wsX2_enter_r1 : List Cond := [Cond.fieldLink RX2 30 "BoxVault" "refused" "[I", Cond.methodLink RX2 50 yX2_boxAt, Cond.instanceMethod yX2_boxAt, Cond.selects RX2 yX2_boxAt yX2_boxAt, Cond.initialized RX2, Cond.code yX2_boxAt cX2_boxAt 2 (some (.object "BoxVault$Box")), Cond.fieldLink RX2 11 "BoxVault" "boxes" "[LBoxVault$Box;", Cond.methodLink RX2 38 yX2_requireRange, Cond.static yX2_requireRange, Cond.code yX2_requireRange cX2_requireRange 3 none, Cond.classLink RX2 94 "java/lang/IllegalArgumentException", Cond.initialized "java/lang/IllegalArgumentException", Cond.methodLink RX2 54 yX2_requirePerson, Cond.static yX2_requirePerson, Cond.code yX2_requirePerson cX2_requirePerson 1 none, Cond.methodLink RX2 77 yX2_requireRented, Cond.static yX2_requireRented, Cond.code yX2_requireRented cX2_requireRented 1 none, Cond.classLink RX2 43 "java/lang/IllegalStateException", Cond.initialized "java/lang/IllegalStateException", Cond.instanceMethod yX0_isRented, Cond.initialized RX0, Cond.selects RX0 yX0_isRented yX0_isRented, Cond.code yX0_isRented cX0_isRented 1 (some .boolean)]
def wsX2_enter_r2 : List Cond := [Cond.fieldLink RX0 11 "BoxVault$Box" "state" "I", Cond.methodLink RX2 81 yX2_rightOf, Cond.instanceMethod yX2_rightOf, Cond.selects RX2 yX2_rightOf yX2_rightOf, Cond.code yX2_rightOf cX2_rightOf 5 (some .int), Cond.fieldLink RX2 18 "BoxVault" "orders" "LBoxVault$OrderBook;", Cond.methodLink RX2 64 yX2_isAlive, Cond.instanceMethod yX2_isAlive, Cond.selects RX2 yX2_isAlive yX2_isAlive, Cond.code yX2_isAlive cX2_isAlive 2 (some .boolean), Cond.fieldLink RX2 22 "BoxVault" "dead" "[Z", Cond.methodLink RX2 201 yX2_isPerson, Cond.static yX2_isPerson, Cond.code yX2_isPerson cX2_isPerson 1 (some .boolean), Cond.instanceMethod yX1_bindingOn, Cond.initialized RX1, Cond.selects RX1 yX1_bindingOn yX1_bindingOn, Cond.code yX1_bindingOn cX1_bindingOn 4 (some .int), Cond.fieldLink RX1 9 "BoxVault$OrderBook" "count" "I", Cond.fieldLink RX1 28 "BoxVault$OrderBook" "holds" "[Z", Cond.fieldLink RX1 15 "BoxVault$OrderBook" "box" "[I", Cond.fieldLink RX1 19 "BoxVault$OrderBook" "court" "[I", Cond.methodLink RX2 204 yX2_orderAllows, Cond.instanceMethod yX2_orderAllows]
def wsX2_enter_r3 : List Cond := [Cond.selects RX2 yX2_orderAllows yX2_orderAllows, Cond.code yX2_orderAllows cX2_orderAllows 4 (some .boolean), Cond.instanceMethod yX1_kindOf, Cond.selects RX1 yX1_kindOf yX1_kindOf, Cond.code yX1_kindOf cX1_kindOf 2 (some .int), Cond.fieldLink RX1 22 "BoxVault$OrderBook" "kind" "[I", Cond.methodLink RX1 32 yX1_has, Cond.instanceMethod yX1_has, Cond.selects RX1 yX1_has yX1_has, Cond.code yX1_has cX1_has 2 (some .boolean), Cond.instanceMethod yX1_personOf, Cond.selects RX1 yX1_personOf yX1_personOf, Cond.code yX1_personOf cX1_personOf 2 (some .int), Cond.fieldLink RX1 25 "BoxVault$OrderBook" "person" "[I", Cond.methodLink RX2 213 yX2_isHeirOfDead, Cond.instanceMethod yX2_isHeirOfDead, Cond.selects RX2 yX2_isHeirOfDead yX2_isHeirOfDead, Cond.code yX2_isHeirOfDead cX2_isHeirOfDead 3 (some .boolean), Cond.methodLink RX2 153 yX2_isHeir, Cond.instanceMethod yX2_isHeir, Cond.selects RX2 yX2_isHeir yX2_isHeir, Cond.code yX2_isHeir cX2_isHeir 3 (some .boolean), Cond.fieldLink RX2 26 "BoxVault" "heirs" "[I", Cond.methodLink RX2 207 yX2_holderAllows]
def wsX2_enter_r4 : List Cond := [Cond.instanceMethod yX2_holderAllows, Cond.selects RX2 yX2_holderAllows yX2_holderAllows, Cond.code yX2_holderAllows cX2_holderAllows 3 (some .boolean), Cond.fieldLink RX2 33 "BoxVault" "today" "I", Cond.instanceMethod yX0_noticesOn, Cond.selects RX0 yX0_noticesOn yX0_noticesOn, Cond.code yX0_noticesOn cX0_noticesOn 2 (some .int), Cond.methodLink RX0 57 Lib.Math.min.name, Cond.static Lib.Math.min.name, Cond.initialized "java/lang/Math", Cond.code Lib.Math.min.name Lib.Math.min.code 2 (some .int), Cond.methodLink RX0 44 yX0_overdueOn, Cond.instanceMethod yX0_overdueOn, Cond.selects RX0 yX0_overdueOn yX0_overdueOn, Cond.code yX0_overdueOn cX0_overdueOn 2 (some .int), Cond.fieldLink RX0 18 "BoxVault$Box" "paidUpTo" "I", Cond.methodLink RX0 51 Lib.Math.max.name, Cond.static Lib.Math.max.name, Cond.code Lib.Math.max.name Lib.Math.max.code 2 (some .int), Cond.instanceMethod yX0_hasProxyOn, Cond.selects RX0 yX0_hasProxyOn yX0_hasProxyOn, Cond.code yX0_hasProxyOn cX0_hasProxyOn 4 (some .boolean), Cond.fieldLink RX0 31 "BoxVault$Box" "proxyCount" "I", Cond.fieldLink RX0 34 "BoxVault$Box" "proxyPerson" "[I"]
def wsX2_enter_r5 : List Cond := [Cond.fieldLink RX0 38 "BoxVault$Box" "proxyFirst" "[I", Cond.fieldLink RX0 41 "BoxVault$Box" "proxyLast" "[I"]
def wsX2_enter : List Cond := .code yX2_enter cX2_enter 6 (some .int) :: ((wsX2_enter_r1 ++ (wsX2_enter_r2 ++ (wsX2_enter_r3 ++ (wsX2_enter_r4 ++ wsX2_enter_r5)))) ++ wsX20 ++ wsX00 ++ wsX10 ++ (vx_atS RX2 98 "java/lang/IllegalArgumentException" ["java/lang/RuntimeException", "java/lang/Exception"]).filter goodWord ++ (vx_atS RX2 47 "java/lang/IllegalStateException" ["java/lang/RuntimeException", "java/lang/Exception"]).filter goodWord)
def wsX2_may_r1 : List Cond := [Cond.methodLink RX2 50 yX2_boxAt, Cond.instanceMethod yX2_boxAt, Cond.selects RX2 yX2_boxAt yX2_boxAt, Cond.initialized RX2, Cond.code yX2_boxAt cX2_boxAt 2 (some (.object "BoxVault$Box")), Cond.fieldLink RX2 11 "BoxVault" "boxes" "[LBoxVault$Box;", Cond.methodLink RX2 38 yX2_requireRange, Cond.static yX2_requireRange, Cond.code yX2_requireRange cX2_requireRange 3 none, Cond.classLink RX2 94 "java/lang/IllegalArgumentException", Cond.initialized "java/lang/IllegalArgumentException", Cond.methodLink RX2 54 yX2_requirePerson, Cond.static yX2_requirePerson, Cond.code yX2_requirePerson cX2_requirePerson 1 none, Cond.methodLink RX2 81 yX2_rightOf, Cond.instanceMethod yX2_rightOf, Cond.selects RX2 yX2_rightOf yX2_rightOf, Cond.code yX2_rightOf cX2_rightOf 5 (some .int), Cond.fieldLink RX2 18 "BoxVault" "orders" "LBoxVault$OrderBook;", Cond.instanceMethod yX0_isRented, Cond.initialized RX0, Cond.selects RX0 yX0_isRented yX0_isRented, Cond.code yX0_isRented cX0_isRented 1 (some .boolean), Cond.fieldLink RX0 11 "BoxVault$Box" "state" "I"]
def wsX2_may_r2 : List Cond := [Cond.methodLink RX2 64 yX2_isAlive, Cond.instanceMethod yX2_isAlive, Cond.selects RX2 yX2_isAlive yX2_isAlive, Cond.code yX2_isAlive cX2_isAlive 2 (some .boolean), Cond.fieldLink RX2 22 "BoxVault" "dead" "[Z", Cond.methodLink RX2 201 yX2_isPerson, Cond.static yX2_isPerson, Cond.code yX2_isPerson cX2_isPerson 1 (some .boolean), Cond.instanceMethod yX1_bindingOn, Cond.initialized RX1, Cond.selects RX1 yX1_bindingOn yX1_bindingOn, Cond.code yX1_bindingOn cX1_bindingOn 4 (some .int), Cond.fieldLink RX1 9 "BoxVault$OrderBook" "count" "I", Cond.fieldLink RX1 28 "BoxVault$OrderBook" "holds" "[Z", Cond.fieldLink RX1 15 "BoxVault$OrderBook" "box" "[I", Cond.fieldLink RX1 19 "BoxVault$OrderBook" "court" "[I", Cond.methodLink RX2 204 yX2_orderAllows, Cond.instanceMethod yX2_orderAllows, Cond.selects RX2 yX2_orderAllows yX2_orderAllows, Cond.code yX2_orderAllows cX2_orderAllows 4 (some .boolean), Cond.instanceMethod yX1_kindOf, Cond.selects RX1 yX1_kindOf yX1_kindOf, Cond.code yX1_kindOf cX1_kindOf 2 (some .int), Cond.fieldLink RX1 22 "BoxVault$OrderBook" "kind" "[I"]
def wsX2_may_r3 : List Cond := [Cond.methodLink RX1 32 yX1_has, Cond.instanceMethod yX1_has, Cond.selects RX1 yX1_has yX1_has, Cond.code yX1_has cX1_has 2 (some .boolean), Cond.instanceMethod yX1_personOf, Cond.selects RX1 yX1_personOf yX1_personOf, Cond.code yX1_personOf cX1_personOf 2 (some .int), Cond.fieldLink RX1 25 "BoxVault$OrderBook" "person" "[I", Cond.methodLink RX2 213 yX2_isHeirOfDead, Cond.instanceMethod yX2_isHeirOfDead, Cond.selects RX2 yX2_isHeirOfDead yX2_isHeirOfDead, Cond.code yX2_isHeirOfDead cX2_isHeirOfDead 3 (some .boolean), Cond.methodLink RX2 153 yX2_isHeir, Cond.instanceMethod yX2_isHeir, Cond.selects RX2 yX2_isHeir yX2_isHeir, Cond.code yX2_isHeir cX2_isHeir 3 (some .boolean), Cond.fieldLink RX2 26 "BoxVault" "heirs" "[I", Cond.methodLink RX2 207 yX2_holderAllows, Cond.instanceMethod yX2_holderAllows, Cond.selects RX2 yX2_holderAllows yX2_holderAllows, Cond.code yX2_holderAllows cX2_holderAllows 3 (some .boolean), Cond.fieldLink RX2 33 "BoxVault" "today" "I", Cond.instanceMethod yX0_noticesOn, Cond.selects RX0 yX0_noticesOn yX0_noticesOn]
def wsX2_may_r4 : List Cond := [Cond.code yX0_noticesOn cX0_noticesOn 2 (some .int), Cond.methodLink RX0 57 Lib.Math.min.name, Cond.static Lib.Math.min.name, Cond.initialized "java/lang/Math", Cond.code Lib.Math.min.name Lib.Math.min.code 2 (some .int), Cond.methodLink RX0 44 yX0_overdueOn, Cond.instanceMethod yX0_overdueOn, Cond.selects RX0 yX0_overdueOn yX0_overdueOn, Cond.code yX0_overdueOn cX0_overdueOn 2 (some .int), Cond.fieldLink RX0 18 "BoxVault$Box" "paidUpTo" "I", Cond.methodLink RX0 51 Lib.Math.max.name, Cond.static Lib.Math.max.name, Cond.code Lib.Math.max.name Lib.Math.max.code 2 (some .int), Cond.instanceMethod yX0_hasProxyOn, Cond.selects RX0 yX0_hasProxyOn yX0_hasProxyOn, Cond.code yX0_hasProxyOn cX0_hasProxyOn 4 (some .boolean), Cond.fieldLink RX0 31 "BoxVault$Box" "proxyCount" "I", Cond.fieldLink RX0 34 "BoxVault$Box" "proxyPerson" "[I", Cond.fieldLink RX0 38 "BoxVault$Box" "proxyFirst" "[I", Cond.fieldLink RX0 41 "BoxVault$Box" "proxyLast" "[I"]
def wsX2_may : List Cond := .code yX2_may cX2_may 4 (some .int) :: ((wsX2_may_r1 ++ (wsX2_may_r2 ++ (wsX2_may_r3 ++ wsX2_may_r4))) ++ wsX20 ++ wsX00 ++ wsX10 ++ (vx_atS RX2 98 "java/lang/IllegalArgumentException" ["java/lang/RuntimeException", "java/lang/Exception"]).filter goodWord)
def wsX2_mayAll_r1 : List Cond := [Cond.methodLink RX2 50 yX2_boxAt, Cond.instanceMethod yX2_boxAt, Cond.selects RX2 yX2_boxAt yX2_boxAt, Cond.initialized RX2, Cond.code yX2_boxAt cX2_boxAt 2 (some (.object "BoxVault$Box")), Cond.fieldLink RX2 11 "BoxVault" "boxes" "[LBoxVault$Box;", Cond.methodLink RX2 38 yX2_requireRange, Cond.static yX2_requireRange, Cond.code yX2_requireRange cX2_requireRange 3 none, Cond.classLink RX2 94 "java/lang/IllegalArgumentException", Cond.initialized "java/lang/IllegalArgumentException", Cond.methodLink RX2 81 yX2_rightOf, Cond.instanceMethod yX2_rightOf, Cond.selects RX2 yX2_rightOf yX2_rightOf, Cond.code yX2_rightOf cX2_rightOf 5 (some .int), Cond.fieldLink RX2 18 "BoxVault" "orders" "LBoxVault$OrderBook;", Cond.instanceMethod yX0_isRented, Cond.initialized RX0, Cond.selects RX0 yX0_isRented yX0_isRented, Cond.code yX0_isRented cX0_isRented 1 (some .boolean), Cond.fieldLink RX0 11 "BoxVault$Box" "state" "I", Cond.methodLink RX2 64 yX2_isAlive, Cond.instanceMethod yX2_isAlive, Cond.selects RX2 yX2_isAlive yX2_isAlive]
def wsX2_mayAll_r2 : List Cond := [Cond.code yX2_isAlive cX2_isAlive 2 (some .boolean), Cond.fieldLink RX2 22 "BoxVault" "dead" "[Z", Cond.methodLink RX2 201 yX2_isPerson, Cond.static yX2_isPerson, Cond.code yX2_isPerson cX2_isPerson 1 (some .boolean), Cond.instanceMethod yX1_bindingOn, Cond.initialized RX1, Cond.selects RX1 yX1_bindingOn yX1_bindingOn, Cond.code yX1_bindingOn cX1_bindingOn 4 (some .int), Cond.fieldLink RX1 9 "BoxVault$OrderBook" "count" "I", Cond.fieldLink RX1 28 "BoxVault$OrderBook" "holds" "[Z", Cond.fieldLink RX1 15 "BoxVault$OrderBook" "box" "[I", Cond.fieldLink RX1 19 "BoxVault$OrderBook" "court" "[I", Cond.methodLink RX2 204 yX2_orderAllows, Cond.instanceMethod yX2_orderAllows, Cond.selects RX2 yX2_orderAllows yX2_orderAllows, Cond.code yX2_orderAllows cX2_orderAllows 4 (some .boolean), Cond.instanceMethod yX1_kindOf, Cond.selects RX1 yX1_kindOf yX1_kindOf, Cond.code yX1_kindOf cX1_kindOf 2 (some .int), Cond.fieldLink RX1 22 "BoxVault$OrderBook" "kind" "[I", Cond.methodLink RX1 32 yX1_has, Cond.instanceMethod yX1_has, Cond.selects RX1 yX1_has yX1_has]
def wsX2_mayAll_r3 : List Cond := [Cond.code yX1_has cX1_has 2 (some .boolean), Cond.instanceMethod yX1_personOf, Cond.selects RX1 yX1_personOf yX1_personOf, Cond.code yX1_personOf cX1_personOf 2 (some .int), Cond.fieldLink RX1 25 "BoxVault$OrderBook" "person" "[I", Cond.methodLink RX2 213 yX2_isHeirOfDead, Cond.instanceMethod yX2_isHeirOfDead, Cond.selects RX2 yX2_isHeirOfDead yX2_isHeirOfDead, Cond.code yX2_isHeirOfDead cX2_isHeirOfDead 3 (some .boolean), Cond.methodLink RX2 153 yX2_isHeir, Cond.instanceMethod yX2_isHeir, Cond.selects RX2 yX2_isHeir yX2_isHeir, Cond.code yX2_isHeir cX2_isHeir 3 (some .boolean), Cond.fieldLink RX2 26 "BoxVault" "heirs" "[I", Cond.methodLink RX2 207 yX2_holderAllows, Cond.instanceMethod yX2_holderAllows, Cond.selects RX2 yX2_holderAllows yX2_holderAllows, Cond.code yX2_holderAllows cX2_holderAllows 3 (some .boolean), Cond.fieldLink RX2 33 "BoxVault" "today" "I", Cond.instanceMethod yX0_noticesOn, Cond.selects RX0 yX0_noticesOn yX0_noticesOn, Cond.code yX0_noticesOn cX0_noticesOn 2 (some .int), Cond.methodLink RX0 57 Lib.Math.min.name, Cond.static Lib.Math.min.name]
def wsX2_mayAll_r4 : List Cond := [Cond.initialized "java/lang/Math", Cond.code Lib.Math.min.name Lib.Math.min.code 2 (some .int), Cond.methodLink RX0 44 yX0_overdueOn, Cond.instanceMethod yX0_overdueOn, Cond.selects RX0 yX0_overdueOn yX0_overdueOn, Cond.code yX0_overdueOn cX0_overdueOn 2 (some .int), Cond.fieldLink RX0 18 "BoxVault$Box" "paidUpTo" "I", Cond.methodLink RX0 51 Lib.Math.max.name, Cond.static Lib.Math.max.name, Cond.code Lib.Math.max.name Lib.Math.max.code 2 (some .int), Cond.instanceMethod yX0_hasProxyOn, Cond.selects RX0 yX0_hasProxyOn yX0_hasProxyOn, Cond.code yX0_hasProxyOn cX0_hasProxyOn 4 (some .boolean), Cond.fieldLink RX0 31 "BoxVault$Box" "proxyCount" "I", Cond.fieldLink RX0 34 "BoxVault$Box" "proxyPerson" "[I", Cond.fieldLink RX0 38 "BoxVault$Box" "proxyFirst" "[I", Cond.fieldLink RX0 41 "BoxVault$Box" "proxyLast" "[I"]
def wsX2_mayAll : List Cond := .code yX2_mayAll cX2_mayAll 5 (some .int) :: ((wsX2_mayAll_r1 ++ (wsX2_mayAll_r2 ++ (wsX2_mayAll_r3 ++ wsX2_mayAll_r4))) ++ wsX20 ++ wsX00 ++ wsX10 ++ (vx_atS RX2 98 "java/lang/IllegalArgumentException" ["java/lang/RuntimeException", "java/lang/Exception"]).filter goodWord)
def wsX2_holder : List Cond := .code yX2_holder cX2_holder 2 (some .int) :: ([.methodLink RX2 50 yX2_boxAt, .instanceMethod yX2_boxAt, .selects RX2 yX2_boxAt yX2_boxAt, .initialized RX2, .code yX2_boxAt cX2_boxAt 2 (some (.object "BoxVault$Box")), .fieldLink RX2 11 "BoxVault" "boxes" "[LBoxVault$Box;", .methodLink RX2 38 yX2_requireRange, .static yX2_requireRange, .code yX2_requireRange cX2_requireRange 3 none, .classLink RX2 94 "java/lang/IllegalArgumentException", .initialized "java/lang/IllegalArgumentException"] ++ wsX00 ++ wsX20 ++ (vx_atS RX2 98 "java/lang/IllegalArgumentException" ["java/lang/RuntimeException", "java/lang/Exception"]).filter goodWord)
def wsX2_notices_r1 : List Cond := [Cond.fieldLink RX2 33 "BoxVault" "today" "I", Cond.methodLink RX2 50 yX2_boxAt, Cond.instanceMethod yX2_boxAt, Cond.selects RX2 yX2_boxAt yX2_boxAt, Cond.initialized RX2, Cond.code yX2_boxAt cX2_boxAt 2 (some (.object "BoxVault$Box")), Cond.fieldLink RX2 11 "BoxVault" "boxes" "[LBoxVault$Box;", Cond.methodLink RX2 38 yX2_requireRange, Cond.static yX2_requireRange, Cond.code yX2_requireRange cX2_requireRange 3 none, Cond.classLink RX2 94 "java/lang/IllegalArgumentException", Cond.initialized "java/lang/IllegalArgumentException", Cond.instanceMethod yX0_isRented, Cond.initialized RX0, Cond.selects RX0 yX0_isRented yX0_isRented, Cond.code yX0_isRented cX0_isRented 1 (some .boolean), Cond.fieldLink RX0 11 "BoxVault$Box" "state" "I", Cond.instanceMethod yX0_noticesOn, Cond.selects RX0 yX0_noticesOn yX0_noticesOn, Cond.code yX0_noticesOn cX0_noticesOn 2 (some .int), Cond.methodLink RX0 57 Lib.Math.min.name, Cond.static Lib.Math.min.name, Cond.initialized "java/lang/Math", Cond.code Lib.Math.min.name Lib.Math.min.code 2 (some .int)]
def wsX2_notices_r2 : List Cond := [Cond.methodLink RX0 44 yX0_overdueOn, Cond.instanceMethod yX0_overdueOn, Cond.selects RX0 yX0_overdueOn yX0_overdueOn, Cond.code yX0_overdueOn cX0_overdueOn 2 (some .int), Cond.fieldLink RX0 18 "BoxVault$Box" "paidUpTo" "I", Cond.methodLink RX0 51 Lib.Math.max.name, Cond.static Lib.Math.max.name, Cond.code Lib.Math.max.name Lib.Math.max.code 2 (some .int)]
def wsX2_notices : List Cond := .code yX2_notices cX2_notices 3 (some .int) :: ((wsX2_notices_r1 ++ wsX2_notices_r2) ++ wsX20 ++ wsX00 ++ (vx_atS RX2 98 "java/lang/IllegalArgumentException" ["java/lang/RuntimeException", "java/lang/Exception"]).filter goodWord)
def wsX2_refusals : List Cond := .code yX2_refusals cX2_refusals 2 (some .int) :: ([.fieldLink RX2 30 "BoxVault" "refused" "[I", .methodLink RX2 54 yX2_requirePerson, .static yX2_requirePerson, .initialized RX2, .code yX2_requirePerson cX2_requirePerson 1 none, .methodLink RX2 38 yX2_requireRange, .static yX2_requireRange, .code yX2_requireRange cX2_requireRange 3 none, .classLink RX2 94 "java/lang/IllegalArgumentException", .initialized "java/lang/IllegalArgumentException"] ++ wsX20 ++ (vx_atS RX2 98 "java/lang/IllegalArgumentException" ["java/lang/RuntimeException", "java/lang/Exception"]).filter goodWord)
def wsX2_binding : List Cond := .code yX2_binding cX2_binding 2 (some .int) :: ([.fieldLink RX2 18 "BoxVault" "orders" "LBoxVault$OrderBook;", .methodLink RX2 38 yX2_requireRange, .static yX2_requireRange, .initialized RX2, .code yX2_requireRange cX2_requireRange 3 none, .classLink RX2 94 "java/lang/IllegalArgumentException", .initialized "java/lang/IllegalArgumentException", .instanceMethod yX1_bindingOn, .initialized RX1, .selects RX1 yX1_bindingOn yX1_bindingOn, .code yX1_bindingOn cX1_bindingOn 4 (some .int), .fieldLink RX1 9 "BoxVault$OrderBook" "count" "I", .fieldLink RX1 28 "BoxVault$OrderBook" "holds" "[Z", .fieldLink RX1 15 "BoxVault$OrderBook" "box" "[I", .fieldLink RX1 19 "BoxVault$OrderBook" "court" "[I"] ++ wsX20 ++ wsX10 ++ (vx_atS RX2 98 "java/lang/IllegalArgumentException" ["java/lang/RuntimeException", "java/lang/Exception"]).filter goodWord)
def wsX3_init : List Cond := .code yX3_init cX3_init 1 none :: ([.methodLink RX3 1 objectInit, .instanceMethod objectInit, .code objectInit ⟨#[0xb1]⟩ 1 none, .arrayClass .boolean, .fieldLink RX3 7 "BoxVaultModel" "dead" "[Z", .arrayClass .int, .fieldLink RX3 13 "BoxVaultModel" "heirs" "[I", .fieldLink RX3 17 "BoxVaultModel" "refusals" "[I", .fieldLink RX3 20 "BoxVaultModel" "state" "[I", .fieldLink RX3 23 "BoxVaultModel" "holder" "[I", .fieldLink RX3 26 "BoxVaultModel" "paid" "[I", .fieldLink RX3 29 "BoxVaultModel" "entries" "[I", .fieldLink RX3 32 "BoxVaultModel" "looked" "[Z", .fieldLink RX3 35 "BoxVaultModel" "owed" "[I", .fieldLink RX3 38 "BoxVaultModel" "proxies" "[I", .fieldLink RX3 41 "BoxVaultModel" "proxy" "[I", .fieldLink RX3 44 "BoxVaultModel" "from" "[I", .fieldLink RX3 47 "BoxVaultModel" "to" "[I", .fieldLink RX3 50 "BoxVaultModel" "at" "[I", .fieldLink RX3 53 "BoxVaultModel" "court" "[I", .fieldLink RX3 56 "BoxVaultModel" "kind" "[I", .fieldLink RX3 59 "BoxVaultModel" "alone" "[I", .fieldLink RX3 62 "BoxVaultModel" "holds" "[Z"] ++ wsX30)
def wsX3_thrown : List Cond := .code yX3_thrown cX3_thrown 1 (some .int) :: ([.fieldLink RX3 65 "BoxVaultModel" "thrown" "I"] ++ wsX30)
def wsX3_fails : List Cond := .code yX3_fails cX3_fails 2 (some .int) :: ([.fieldLink RX3 65 "BoxVaultModel" "thrown" "I"] ++ wsX30)
def wsX3_in : List Cond := .code yX3_in cX3_in 3 (some .boolean) :: ([])
def wsX3_isBox : List Cond := .code yX3_isBox cX3_isBox 1 (some .boolean) :: ([.methodLink RX3 69 yX3_in, .static yX3_in, .initialized RX3, .code yX3_in cX3_in 3 (some .boolean)])
def wsX3_isPerson : List Cond := .code yX3_isPerson cX3_isPerson 1 (some .boolean) :: ([.methodLink RX3 69 yX3_in, .static yX3_in, .initialized RX3, .code yX3_in cX3_in 3 (some .boolean)])
def wsX3_isRented : List Cond := .code yX3_isRented cX3_isRented 2 (some .boolean) :: ([.fieldLink RX3 20 "BoxVaultModel" "state" "[I"] ++ wsX30)
def wsX3_overdue : List Cond := .code yX3_overdue cX3_overdue 2 (some .int) :: ([.fieldLink RX3 73 "BoxVaultModel" "now" "I", .fieldLink RX3 26 "BoxVaultModel" "paid" "[I"] ++ wsX30)
def wsX3_noticesOf : List Cond := .code yX3_noticesOf cX3_noticesOf 3 (some .int) :: ([.methodLink RX3 76 yX3_overdue, .instanceMethod yX3_overdue, .selects RX3 yX3_overdue yX3_overdue, .initialized RX3, .code yX3_overdue cX3_overdue 2 (some .int), .fieldLink RX3 73 "BoxVaultModel" "now" "I", .fieldLink RX3 26 "BoxVaultModel" "paid" "[I", .methodLink RX3 80 yX3_isRented, .instanceMethod yX3_isRented, .selects RX3 yX3_isRented yX3_isRented, .code yX3_isRented cX3_isRented 2 (some .boolean), .fieldLink RX3 20 "BoxVaultModel" "state" "[I"] ++ wsX30)
def wsX3_binds : List Cond := .code yX3_binds cX3_binds 5 (some .int) :: ([.fieldLink RX3 84 "BoxVaultModel" "orders" "I", .fieldLink RX3 62 "BoxVaultModel" "holds" "[Z", .fieldLink RX3 50 "BoxVaultModel" "at" "[I", .fieldLink RX3 53 "BoxVaultModel" "court" "[I"] ++ wsX30)
def wsX3_isHeir : List Cond := .code yX3_isHeir cX3_isHeir 3 (some .boolean) :: ([.fieldLink RX3 13 "BoxVaultModel" "heirs" "[I"] ++ wsX30)
def wsX3_isOrdered : List Cond := .code yX3_isOrdered cX3_isOrdered 4 (some .boolean) :: ([.fieldLink RX3 23 "BoxVaultModel" "holder" "[I", .fieldLink RX3 50 "BoxVaultModel" "at" "[I", .fieldLink RX3 56 "BoxVaultModel" "kind" "[I", .fieldLink RX3 59 "BoxVaultModel" "alone" "[I", .fieldLink RX3 7 "BoxVaultModel" "dead" "[Z", .methodLink RX3 87 yX3_isHeir, .instanceMethod yX3_isHeir, .selects RX3 yX3_isHeir yX3_isHeir, .initialized RX3, .code yX3_isHeir cX3_isHeir 3 (some .boolean), .fieldLink RX3 13 "BoxVaultModel" "heirs" "[I"] ++ wsX30)
def wsX3_isProxy : List Cond := .code yX3_isProxy cX3_isProxy 5 (some .boolean) :: ([.fieldLink RX3 38 "BoxVaultModel" "proxies" "[I", .fieldLink RX3 41 "BoxVaultModel" "proxy" "[I", .fieldLink RX3 73 "BoxVaultModel" "now" "I", .fieldLink RX3 44 "BoxVaultModel" "from" "[I", .fieldLink RX3 47 "BoxVaultModel" "to" "[I", .methodLink RX3 69 yX3_in, .static yX3_in, .initialized RX3, .code yX3_in cX3_in 3 (some .boolean)] ++ wsX30)
def wsX3_right_r1 : List Cond := [Cond.fieldLink RX3 7 "BoxVaultModel" "dead" "[Z", Cond.fieldLink RX3 23 "BoxVaultModel" "holder" "[I", Cond.fieldLink RX3 32 "BoxVaultModel" "looked" "[Z", Cond.methodLink RX3 80 yX3_isRented, Cond.instanceMethod yX3_isRented, Cond.selects RX3 yX3_isRented yX3_isRented, Cond.initialized RX3, Cond.code yX3_isRented cX3_isRented 2 (some .boolean), Cond.fieldLink RX3 20 "BoxVaultModel" "state" "[I", Cond.methodLink RX3 91 yX3_binds, Cond.instanceMethod yX3_binds, Cond.selects RX3 yX3_binds yX3_binds, Cond.code yX3_binds cX3_binds 5 (some .int), Cond.fieldLink RX3 84 "BoxVaultModel" "orders" "I", Cond.fieldLink RX3 62 "BoxVaultModel" "holds" "[Z", Cond.fieldLink RX3 50 "BoxVaultModel" "at" "[I", Cond.fieldLink RX3 53 "BoxVaultModel" "court" "[I", Cond.methodLink RX3 94 yX3_isOrdered, Cond.instanceMethod yX3_isOrdered, Cond.selects RX3 yX3_isOrdered yX3_isOrdered, Cond.code yX3_isOrdered cX3_isOrdered 4 (some .boolean), Cond.fieldLink RX3 56 "BoxVaultModel" "kind" "[I", Cond.fieldLink RX3 59 "BoxVaultModel" "alone" "[I", Cond.methodLink RX3 87 yX3_isHeir]
def wsX3_right_r2 : List Cond := [Cond.instanceMethod yX3_isHeir, Cond.selects RX3 yX3_isHeir yX3_isHeir, Cond.code yX3_isHeir cX3_isHeir 3 (some .boolean), Cond.fieldLink RX3 13 "BoxVaultModel" "heirs" "[I", Cond.methodLink RX3 97 yX3_noticesOf, Cond.instanceMethod yX3_noticesOf, Cond.selects RX3 yX3_noticesOf yX3_noticesOf, Cond.code yX3_noticesOf cX3_noticesOf 3 (some .int), Cond.methodLink RX3 76 yX3_overdue, Cond.instanceMethod yX3_overdue, Cond.selects RX3 yX3_overdue yX3_overdue, Cond.code yX3_overdue cX3_overdue 2 (some .int), Cond.fieldLink RX3 73 "BoxVaultModel" "now" "I", Cond.fieldLink RX3 26 "BoxVaultModel" "paid" "[I", Cond.methodLink RX3 100 yX3_isProxy, Cond.instanceMethod yX3_isProxy, Cond.selects RX3 yX3_isProxy yX3_isProxy, Cond.code yX3_isProxy cX3_isProxy 5 (some .boolean), Cond.fieldLink RX3 38 "BoxVaultModel" "proxies" "[I", Cond.fieldLink RX3 41 "BoxVaultModel" "proxy" "[I", Cond.fieldLink RX3 44 "BoxVaultModel" "from" "[I", Cond.fieldLink RX3 47 "BoxVaultModel" "to" "[I", Cond.methodLink RX3 69 yX3_in, Cond.static yX3_in]
def wsX3_right_r3 : List Cond := [Cond.code yX3_in cX3_in 3 (some .boolean)]
def wsX3_right : List Cond := .code yX3_right cX3_right 4 (some .int) :: ((wsX3_right_r1 ++ (wsX3_right_r2 ++ wsX3_right_r3)) ++ wsX30)
def wsX3_frees : List Cond := .code yX3_frees cX3_frees 3 none :: ([.fieldLink RX3 20 "BoxVaultModel" "state" "[I", .fieldLink RX3 38 "BoxVaultModel" "proxies" "[I", .fieldLink RX3 84 "BoxVaultModel" "orders" "I", .fieldLink RX3 62 "BoxVaultModel" "holds" "[Z", .fieldLink RX3 50 "BoxVaultModel" "at" "[I"] ++ wsX30)
def wsX3_pass : List Cond := .code yX3_pass cX3_pass 2 (some .int) :: ([.fieldLink RX3 65 "BoxVaultModel" "thrown" "I", .fieldLink RX3 73 "BoxVaultModel" "now" "I", .constant RX3 106 (99999), .methodLink RX3 69 yX3_in, .static yX3_in, .initialized RX3, .code yX3_in cX3_in 3 (some .boolean), .methodLink RX3 103 yX3_fails, .instanceMethod yX3_fails, .selects RX3 yX3_fails yX3_fails, .code yX3_fails cX3_fails 2 (some .int)] ++ wsX30)
def wsX3_rent : List Cond := .code yX3_rent cX3_rent 4 (some .int) :: ([.fieldLink RX3 65 "BoxVaultModel" "thrown" "I", .fieldLink RX3 20 "BoxVaultModel" "state" "[I", .fieldLink RX3 7 "BoxVaultModel" "dead" "[Z", .fieldLink RX3 23 "BoxVaultModel" "holder" "[I", .fieldLink RX3 26 "BoxVaultModel" "paid" "[I", .fieldLink RX3 73 "BoxVaultModel" "now" "I", .fieldLink RX3 29 "BoxVaultModel" "entries" "[I", .fieldLink RX3 32 "BoxVaultModel" "looked" "[Z", .methodLink RX3 107 yX3_isBox, .static yX3_isBox, .initialized RX3, .code yX3_isBox cX3_isBox 1 (some .boolean), .methodLink RX3 69 yX3_in, .static yX3_in, .code yX3_in cX3_in 3 (some .boolean), .methodLink RX3 110 yX3_isPerson, .static yX3_isPerson, .code yX3_isPerson cX3_isPerson 1 (some .boolean), .methodLink RX3 103 yX3_fails, .instanceMethod yX3_fails, .selects RX3 yX3_fails yX3_fails, .code yX3_fails cX3_fails 2 (some .int)] ++ wsX30)
def wsX3_extend : List Cond := .code yX3_extend cX3_extend 3 (some .int) :: ([.fieldLink RX3 65 "BoxVaultModel" "thrown" "I", .fieldLink RX3 26 "BoxVaultModel" "paid" "[I", .methodLink RX3 107 yX3_isBox, .static yX3_isBox, .initialized RX3, .code yX3_isBox cX3_isBox 1 (some .boolean), .methodLink RX3 69 yX3_in, .static yX3_in, .code yX3_in cX3_in 3 (some .boolean), .methodLink RX3 103 yX3_fails, .instanceMethod yX3_fails, .selects RX3 yX3_fails yX3_fails, .code yX3_fails cX3_fails 2 (some .int), .methodLink RX3 80 yX3_isRented, .instanceMethod yX3_isRented, .selects RX3 yX3_isRented yX3_isRented, .code yX3_isRented cX3_isRented 2 (some .boolean), .fieldLink RX3 20 "BoxVaultModel" "state" "[I"] ++ wsX30)
def wsX3_giveBack_r1 : List Cond := [Cond.fieldLink RX3 65 "BoxVaultModel" "thrown" "I", Cond.fieldLink RX3 29 "BoxVaultModel" "entries" "[I", Cond.methodLink RX3 107 yX3_isBox, Cond.static yX3_isBox, Cond.initialized RX3, Cond.code yX3_isBox cX3_isBox 1 (some .boolean), Cond.methodLink RX3 69 yX3_in, Cond.static yX3_in, Cond.code yX3_in cX3_in 3 (some .boolean), Cond.methodLink RX3 110 yX3_isPerson, Cond.static yX3_isPerson, Cond.code yX3_isPerson cX3_isPerson 1 (some .boolean), Cond.methodLink RX3 103 yX3_fails, Cond.instanceMethod yX3_fails, Cond.selects RX3 yX3_fails yX3_fails, Cond.code yX3_fails cX3_fails 2 (some .int), Cond.methodLink RX3 113 yX3_right, Cond.instanceMethod yX3_right, Cond.selects RX3 yX3_right yX3_right, Cond.code yX3_right cX3_right 4 (some .int), Cond.fieldLink RX3 7 "BoxVaultModel" "dead" "[Z", Cond.fieldLink RX3 23 "BoxVaultModel" "holder" "[I", Cond.fieldLink RX3 32 "BoxVaultModel" "looked" "[Z", Cond.methodLink RX3 80 yX3_isRented]
def wsX3_giveBack_r2 : List Cond := [Cond.instanceMethod yX3_isRented, Cond.selects RX3 yX3_isRented yX3_isRented, Cond.code yX3_isRented cX3_isRented 2 (some .boolean), Cond.fieldLink RX3 20 "BoxVaultModel" "state" "[I", Cond.methodLink RX3 91 yX3_binds, Cond.instanceMethod yX3_binds, Cond.selects RX3 yX3_binds yX3_binds, Cond.code yX3_binds cX3_binds 5 (some .int), Cond.fieldLink RX3 84 "BoxVaultModel" "orders" "I", Cond.fieldLink RX3 62 "BoxVaultModel" "holds" "[Z", Cond.fieldLink RX3 50 "BoxVaultModel" "at" "[I", Cond.fieldLink RX3 53 "BoxVaultModel" "court" "[I", Cond.methodLink RX3 94 yX3_isOrdered, Cond.instanceMethod yX3_isOrdered, Cond.selects RX3 yX3_isOrdered yX3_isOrdered, Cond.code yX3_isOrdered cX3_isOrdered 4 (some .boolean), Cond.fieldLink RX3 56 "BoxVaultModel" "kind" "[I", Cond.fieldLink RX3 59 "BoxVaultModel" "alone" "[I", Cond.methodLink RX3 87 yX3_isHeir, Cond.instanceMethod yX3_isHeir, Cond.selects RX3 yX3_isHeir yX3_isHeir, Cond.code yX3_isHeir cX3_isHeir 3 (some .boolean), Cond.fieldLink RX3 13 "BoxVaultModel" "heirs" "[I", Cond.methodLink RX3 97 yX3_noticesOf]
def wsX3_giveBack_r3 : List Cond := [Cond.instanceMethod yX3_noticesOf, Cond.selects RX3 yX3_noticesOf yX3_noticesOf, Cond.code yX3_noticesOf cX3_noticesOf 3 (some .int), Cond.methodLink RX3 76 yX3_overdue, Cond.instanceMethod yX3_overdue, Cond.selects RX3 yX3_overdue yX3_overdue, Cond.code yX3_overdue cX3_overdue 2 (some .int), Cond.fieldLink RX3 73 "BoxVaultModel" "now" "I", Cond.fieldLink RX3 26 "BoxVaultModel" "paid" "[I", Cond.methodLink RX3 100 yX3_isProxy, Cond.instanceMethod yX3_isProxy, Cond.selects RX3 yX3_isProxy yX3_isProxy, Cond.code yX3_isProxy cX3_isProxy 5 (some .boolean), Cond.fieldLink RX3 38 "BoxVaultModel" "proxies" "[I", Cond.fieldLink RX3 41 "BoxVaultModel" "proxy" "[I", Cond.fieldLink RX3 44 "BoxVaultModel" "from" "[I", Cond.fieldLink RX3 47 "BoxVaultModel" "to" "[I", Cond.methodLink RX3 117 yX3_frees, Cond.instanceMethod yX3_frees, Cond.selects RX3 yX3_frees yX3_frees, Cond.code yX3_frees cX3_frees 3 none]
def wsX3_giveBack : List Cond := .code yX3_giveBack cX3_giveBack 3 (some .int) :: ((wsX3_giveBack_r1 ++ (wsX3_giveBack_r2 ++ wsX3_giveBack_r3)) ++ wsX30)
def wsX3_drill_r1 : List Cond := [Cond.fieldLink RX3 65 "BoxVaultModel" "thrown" "I", Cond.fieldLink RX3 7 "BoxVaultModel" "dead" "[Z", Cond.fieldLink RX3 23 "BoxVaultModel" "holder" "[I", Cond.fieldLink RX3 56 "BoxVaultModel" "kind" "[I", Cond.fieldLink RX3 35 "BoxVaultModel" "owed" "[I", Cond.fieldLink RX3 20 "BoxVaultModel" "state" "[I", Cond.methodLink RX3 107 yX3_isBox, Cond.static yX3_isBox, Cond.initialized RX3, Cond.code yX3_isBox cX3_isBox 1 (some .boolean), Cond.methodLink RX3 69 yX3_in, Cond.static yX3_in, Cond.code yX3_in cX3_in 3 (some .boolean), Cond.methodLink RX3 110 yX3_isPerson, Cond.static yX3_isPerson, Cond.code yX3_isPerson cX3_isPerson 1 (some .boolean), Cond.methodLink RX3 103 yX3_fails, Cond.instanceMethod yX3_fails, Cond.selects RX3 yX3_fails yX3_fails, Cond.code yX3_fails cX3_fails 2 (some .int), Cond.methodLink RX3 91 yX3_binds, Cond.instanceMethod yX3_binds, Cond.selects RX3 yX3_binds yX3_binds, Cond.code yX3_binds cX3_binds 5 (some .int)]
def wsX3_drill_r2 : List Cond := [Cond.fieldLink RX3 84 "BoxVaultModel" "orders" "I", Cond.fieldLink RX3 62 "BoxVaultModel" "holds" "[Z", Cond.fieldLink RX3 50 "BoxVaultModel" "at" "[I", Cond.fieldLink RX3 53 "BoxVaultModel" "court" "[I", Cond.methodLink RX3 97 yX3_noticesOf, Cond.instanceMethod yX3_noticesOf, Cond.selects RX3 yX3_noticesOf yX3_noticesOf, Cond.code yX3_noticesOf cX3_noticesOf 3 (some .int), Cond.methodLink RX3 76 yX3_overdue, Cond.instanceMethod yX3_overdue, Cond.selects RX3 yX3_overdue yX3_overdue, Cond.code yX3_overdue cX3_overdue 2 (some .int), Cond.fieldLink RX3 73 "BoxVaultModel" "now" "I", Cond.fieldLink RX3 26 "BoxVaultModel" "paid" "[I", Cond.methodLink RX3 80 yX3_isRented, Cond.instanceMethod yX3_isRented, Cond.selects RX3 yX3_isRented yX3_isRented, Cond.code yX3_isRented cX3_isRented 2 (some .boolean)]
def wsX3_drill : List Cond := .code yX3_drill cX3_drill 6 (some .int) :: ((wsX3_drill_r1 ++ wsX3_drill_r2) ++ wsX30)
def wsX3_fetch_r1 : List Cond := [Cond.fieldLink RX3 65 "BoxVaultModel" "thrown" "I", Cond.fieldLink RX3 20 "BoxVaultModel" "state" "[I", Cond.fieldLink RX3 7 "BoxVaultModel" "dead" "[Z", Cond.fieldLink RX3 23 "BoxVaultModel" "holder" "[I", Cond.fieldLink RX3 35 "BoxVaultModel" "owed" "[I", Cond.methodLink RX3 107 yX3_isBox, Cond.static yX3_isBox, Cond.initialized RX3, Cond.code yX3_isBox cX3_isBox 1 (some .boolean), Cond.methodLink RX3 69 yX3_in, Cond.static yX3_in, Cond.code yX3_in cX3_in 3 (some .boolean), Cond.methodLink RX3 110 yX3_isPerson, Cond.static yX3_isPerson, Cond.code yX3_isPerson cX3_isPerson 1 (some .boolean), Cond.methodLink RX3 103 yX3_fails, Cond.instanceMethod yX3_fails, Cond.selects RX3 yX3_fails yX3_fails, Cond.code yX3_fails cX3_fails 2 (some .int), Cond.methodLink RX3 91 yX3_binds, Cond.instanceMethod yX3_binds, Cond.selects RX3 yX3_binds yX3_binds, Cond.code yX3_binds cX3_binds 5 (some .int), Cond.fieldLink RX3 84 "BoxVaultModel" "orders" "I"]
def wsX3_fetch_r2 : List Cond := [Cond.fieldLink RX3 62 "BoxVaultModel" "holds" "[Z", Cond.fieldLink RX3 50 "BoxVaultModel" "at" "[I", Cond.fieldLink RX3 53 "BoxVaultModel" "court" "[I", Cond.methodLink RX3 94 yX3_isOrdered, Cond.instanceMethod yX3_isOrdered, Cond.selects RX3 yX3_isOrdered yX3_isOrdered, Cond.code yX3_isOrdered cX3_isOrdered 4 (some .boolean), Cond.fieldLink RX3 56 "BoxVaultModel" "kind" "[I", Cond.fieldLink RX3 59 "BoxVaultModel" "alone" "[I", Cond.methodLink RX3 87 yX3_isHeir, Cond.instanceMethod yX3_isHeir, Cond.selects RX3 yX3_isHeir yX3_isHeir, Cond.code yX3_isHeir cX3_isHeir 3 (some .boolean), Cond.fieldLink RX3 13 "BoxVaultModel" "heirs" "[I", Cond.methodLink RX3 117 yX3_frees, Cond.instanceMethod yX3_frees, Cond.selects RX3 yX3_frees yX3_frees, Cond.code yX3_frees cX3_frees 3 none, Cond.fieldLink RX3 38 "BoxVaultModel" "proxies" "[I"]
def wsX3_fetch : List Cond := .code yX3_fetch cX3_fetch 5 (some .int) :: ((wsX3_fetch_r1 ++ wsX3_fetch_r2) ++ wsX30)
def wsX3_proxy_r1 : List Cond := [Cond.fieldLink RX3 65 "BoxVaultModel" "thrown" "I", Cond.constant RX3 106 (99999), Cond.fieldLink RX3 7 "BoxVaultModel" "dead" "[Z", Cond.fieldLink RX3 23 "BoxVaultModel" "holder" "[I", Cond.fieldLink RX3 38 "BoxVaultModel" "proxies" "[I", Cond.fieldLink RX3 41 "BoxVaultModel" "proxy" "[I", Cond.fieldLink RX3 44 "BoxVaultModel" "from" "[I", Cond.fieldLink RX3 47 "BoxVaultModel" "to" "[I", Cond.methodLink RX3 107 yX3_isBox, Cond.static yX3_isBox, Cond.initialized RX3, Cond.code yX3_isBox cX3_isBox 1 (some .boolean), Cond.methodLink RX3 69 yX3_in, Cond.static yX3_in, Cond.code yX3_in cX3_in 3 (some .boolean), Cond.methodLink RX3 110 yX3_isPerson, Cond.static yX3_isPerson, Cond.code yX3_isPerson cX3_isPerson 1 (some .boolean), Cond.methodLink RX3 103 yX3_fails, Cond.instanceMethod yX3_fails, Cond.selects RX3 yX3_fails yX3_fails, Cond.code yX3_fails cX3_fails 2 (some .int), Cond.methodLink RX3 80 yX3_isRented, Cond.instanceMethod yX3_isRented]
def wsX3_proxy_r2 : List Cond := [Cond.selects RX3 yX3_isRented yX3_isRented, Cond.code yX3_isRented cX3_isRented 2 (some .boolean), Cond.fieldLink RX3 20 "BoxVaultModel" "state" "[I"]
def wsX3_proxy : List Cond := .code yX3_proxy cX3_proxy 6 (some .int) :: ((wsX3_proxy_r1 ++ wsX3_proxy_r2) ++ wsX30)
def wsX3_heir : List Cond := .code yX3_heir cX3_heir 5 (some .boolean) :: ([.fieldLink RX3 65 "BoxVaultModel" "thrown" "I", .fieldLink RX3 13 "BoxVaultModel" "heirs" "[I", .methodLink RX3 110 yX3_isPerson, .static yX3_isPerson, .initialized RX3, .code yX3_isPerson cX3_isPerson 1 (some .boolean), .methodLink RX3 69 yX3_in, .static yX3_in, .code yX3_in cX3_in 3 (some .boolean), .methodLink RX3 87 yX3_isHeir, .instanceMethod yX3_isHeir, .selects RX3 yX3_isHeir yX3_isHeir, .code yX3_isHeir cX3_isHeir 3 (some .boolean)] ++ wsX30)
def wsX3_die : List Cond := .code yX3_die cX3_die 5 (some .int) :: ([.fieldLink RX3 65 "BoxVaultModel" "thrown" "I", .fieldLink RX3 7 "BoxVaultModel" "dead" "[Z", .fieldLink RX3 20 "BoxVaultModel" "state" "[I", .fieldLink RX3 23 "BoxVaultModel" "holder" "[I", .fieldLink RX3 38 "BoxVaultModel" "proxies" "[I", .methodLink RX3 110 yX3_isPerson, .static yX3_isPerson, .initialized RX3, .code yX3_isPerson cX3_isPerson 1 (some .boolean), .methodLink RX3 69 yX3_in, .static yX3_in, .code yX3_in cX3_in 3 (some .boolean), .methodLink RX3 103 yX3_fails, .instanceMethod yX3_fails, .selects RX3 yX3_fails yX3_fails, .code yX3_fails cX3_fails 2 (some .int), .methodLink RX3 80 yX3_isRented, .instanceMethod yX3_isRented, .selects RX3 yX3_isRented yX3_isRented, .code yX3_isRented cX3_isRented 2 (some .boolean)] ++ wsX30)
def wsX3_order : List Cond := .code yX3_order cX3_order 5 (some .int) :: ([.fieldLink RX3 65 "BoxVaultModel" "thrown" "I", .fieldLink RX3 20 "BoxVaultModel" "state" "[I", .fieldLink RX3 84 "BoxVaultModel" "orders" "I", .fieldLink RX3 50 "BoxVaultModel" "at" "[I", .fieldLink RX3 53 "BoxVaultModel" "court" "[I", .fieldLink RX3 56 "BoxVaultModel" "kind" "[I", .fieldLink RX3 59 "BoxVaultModel" "alone" "[I", .fieldLink RX3 62 "BoxVaultModel" "holds" "[Z", .methodLink RX3 107 yX3_isBox, .static yX3_isBox, .initialized RX3, .code yX3_isBox cX3_isBox 1 (some .boolean), .methodLink RX3 69 yX3_in, .static yX3_in, .code yX3_in cX3_in 3 (some .boolean), .methodLink RX3 110 yX3_isPerson, .static yX3_isPerson, .code yX3_isPerson cX3_isPerson 1 (some .boolean), .methodLink RX3 103 yX3_fails, .instanceMethod yX3_fails, .selects RX3 yX3_fails yX3_fails, .code yX3_fails cX3_fails 2 (some .int)] ++ wsX30)
def wsX3_lift : List Cond := .code yX3_lift cX3_lift 3 (some .boolean) :: ([.fieldLink RX3 84 "BoxVaultModel" "orders" "I", .fieldLink RX3 62 "BoxVaultModel" "holds" "[Z", .fieldLink RX3 65 "BoxVaultModel" "thrown" "I", .fieldLink RX3 50 "BoxVaultModel" "at" "[I", .methodLink RX3 69 yX3_in, .static yX3_in, .initialized RX3, .code yX3_in cX3_in 3 (some .boolean), .methodLink RX3 91 yX3_binds, .instanceMethod yX3_binds, .selects RX3 yX3_binds yX3_binds, .code yX3_binds cX3_binds 5 (some .int), .fieldLink RX3 53 "BoxVaultModel" "court" "[I"] ++ wsX30)
def wsX3_enter_r1 : List Cond := [Cond.fieldLink RX3 65 "BoxVaultModel" "thrown" "I", Cond.fieldLink RX3 17 "BoxVaultModel" "refusals" "[I", Cond.fieldLink RX3 29 "BoxVaultModel" "entries" "[I", Cond.fieldLink RX3 32 "BoxVaultModel" "looked" "[Z", Cond.methodLink RX3 107 yX3_isBox, Cond.static yX3_isBox, Cond.initialized RX3, Cond.code yX3_isBox cX3_isBox 1 (some .boolean), Cond.methodLink RX3 69 yX3_in, Cond.static yX3_in, Cond.code yX3_in cX3_in 3 (some .boolean), Cond.methodLink RX3 110 yX3_isPerson, Cond.static yX3_isPerson, Cond.code yX3_isPerson cX3_isPerson 1 (some .boolean), Cond.methodLink RX3 103 yX3_fails, Cond.instanceMethod yX3_fails, Cond.selects RX3 yX3_fails yX3_fails, Cond.code yX3_fails cX3_fails 2 (some .int), Cond.methodLink RX3 80 yX3_isRented, Cond.instanceMethod yX3_isRented, Cond.selects RX3 yX3_isRented yX3_isRented, Cond.code yX3_isRented cX3_isRented 2 (some .boolean), Cond.fieldLink RX3 20 "BoxVaultModel" "state" "[I", Cond.methodLink RX3 113 yX3_right]
def wsX3_enter_r2 : List Cond := [Cond.instanceMethod yX3_right, Cond.selects RX3 yX3_right yX3_right, Cond.code yX3_right cX3_right 4 (some .int), Cond.fieldLink RX3 7 "BoxVaultModel" "dead" "[Z", Cond.fieldLink RX3 23 "BoxVaultModel" "holder" "[I", Cond.methodLink RX3 91 yX3_binds, Cond.instanceMethod yX3_binds, Cond.selects RX3 yX3_binds yX3_binds, Cond.code yX3_binds cX3_binds 5 (some .int), Cond.fieldLink RX3 84 "BoxVaultModel" "orders" "I", Cond.fieldLink RX3 62 "BoxVaultModel" "holds" "[Z", Cond.fieldLink RX3 50 "BoxVaultModel" "at" "[I", Cond.fieldLink RX3 53 "BoxVaultModel" "court" "[I", Cond.methodLink RX3 94 yX3_isOrdered, Cond.instanceMethod yX3_isOrdered, Cond.selects RX3 yX3_isOrdered yX3_isOrdered, Cond.code yX3_isOrdered cX3_isOrdered 4 (some .boolean), Cond.fieldLink RX3 56 "BoxVaultModel" "kind" "[I", Cond.fieldLink RX3 59 "BoxVaultModel" "alone" "[I", Cond.methodLink RX3 87 yX3_isHeir, Cond.instanceMethod yX3_isHeir, Cond.selects RX3 yX3_isHeir yX3_isHeir, Cond.code yX3_isHeir cX3_isHeir 3 (some .boolean), Cond.fieldLink RX3 13 "BoxVaultModel" "heirs" "[I"]
def wsX3_enter_r3 : List Cond := [Cond.methodLink RX3 97 yX3_noticesOf, Cond.instanceMethod yX3_noticesOf, Cond.selects RX3 yX3_noticesOf yX3_noticesOf, Cond.code yX3_noticesOf cX3_noticesOf 3 (some .int), Cond.methodLink RX3 76 yX3_overdue, Cond.instanceMethod yX3_overdue, Cond.selects RX3 yX3_overdue yX3_overdue, Cond.code yX3_overdue cX3_overdue 2 (some .int), Cond.fieldLink RX3 73 "BoxVaultModel" "now" "I", Cond.fieldLink RX3 26 "BoxVaultModel" "paid" "[I", Cond.methodLink RX3 100 yX3_isProxy, Cond.instanceMethod yX3_isProxy, Cond.selects RX3 yX3_isProxy yX3_isProxy, Cond.code yX3_isProxy cX3_isProxy 5 (some .boolean), Cond.fieldLink RX3 38 "BoxVaultModel" "proxies" "[I", Cond.fieldLink RX3 41 "BoxVaultModel" "proxy" "[I", Cond.fieldLink RX3 44 "BoxVaultModel" "from" "[I", Cond.fieldLink RX3 47 "BoxVaultModel" "to" "[I"]
def wsX3_enter : List Cond := .code yX3_enter cX3_enter 6 (some .int) :: ((wsX3_enter_r1 ++ (wsX3_enter_r2 ++ wsX3_enter_r3)) ++ wsX30)
def wsX3_may_r1 : List Cond := [Cond.fieldLink RX3 65 "BoxVaultModel" "thrown" "I", Cond.methodLink RX3 107 yX3_isBox, Cond.static yX3_isBox, Cond.initialized RX3, Cond.code yX3_isBox cX3_isBox 1 (some .boolean), Cond.methodLink RX3 69 yX3_in, Cond.static yX3_in, Cond.code yX3_in cX3_in 3 (some .boolean), Cond.methodLink RX3 110 yX3_isPerson, Cond.static yX3_isPerson, Cond.code yX3_isPerson cX3_isPerson 1 (some .boolean), Cond.methodLink RX3 113 yX3_right, Cond.instanceMethod yX3_right, Cond.selects RX3 yX3_right yX3_right, Cond.code yX3_right cX3_right 4 (some .int), Cond.fieldLink RX3 7 "BoxVaultModel" "dead" "[Z", Cond.fieldLink RX3 23 "BoxVaultModel" "holder" "[I", Cond.fieldLink RX3 32 "BoxVaultModel" "looked" "[Z", Cond.methodLink RX3 80 yX3_isRented, Cond.instanceMethod yX3_isRented, Cond.selects RX3 yX3_isRented yX3_isRented, Cond.code yX3_isRented cX3_isRented 2 (some .boolean), Cond.fieldLink RX3 20 "BoxVaultModel" "state" "[I", Cond.methodLink RX3 91 yX3_binds]
def wsX3_may_r2 : List Cond := [Cond.instanceMethod yX3_binds, Cond.selects RX3 yX3_binds yX3_binds, Cond.code yX3_binds cX3_binds 5 (some .int), Cond.fieldLink RX3 84 "BoxVaultModel" "orders" "I", Cond.fieldLink RX3 62 "BoxVaultModel" "holds" "[Z", Cond.fieldLink RX3 50 "BoxVaultModel" "at" "[I", Cond.fieldLink RX3 53 "BoxVaultModel" "court" "[I", Cond.methodLink RX3 94 yX3_isOrdered, Cond.instanceMethod yX3_isOrdered, Cond.selects RX3 yX3_isOrdered yX3_isOrdered, Cond.code yX3_isOrdered cX3_isOrdered 4 (some .boolean), Cond.fieldLink RX3 56 "BoxVaultModel" "kind" "[I", Cond.fieldLink RX3 59 "BoxVaultModel" "alone" "[I", Cond.methodLink RX3 87 yX3_isHeir, Cond.instanceMethod yX3_isHeir, Cond.selects RX3 yX3_isHeir yX3_isHeir, Cond.code yX3_isHeir cX3_isHeir 3 (some .boolean), Cond.fieldLink RX3 13 "BoxVaultModel" "heirs" "[I", Cond.methodLink RX3 97 yX3_noticesOf, Cond.instanceMethod yX3_noticesOf, Cond.selects RX3 yX3_noticesOf yX3_noticesOf, Cond.code yX3_noticesOf cX3_noticesOf 3 (some .int), Cond.methodLink RX3 76 yX3_overdue, Cond.instanceMethod yX3_overdue]
def wsX3_may_r3 : List Cond := [Cond.selects RX3 yX3_overdue yX3_overdue, Cond.code yX3_overdue cX3_overdue 2 (some .int), Cond.fieldLink RX3 73 "BoxVaultModel" "now" "I", Cond.fieldLink RX3 26 "BoxVaultModel" "paid" "[I", Cond.methodLink RX3 100 yX3_isProxy, Cond.instanceMethod yX3_isProxy, Cond.selects RX3 yX3_isProxy yX3_isProxy, Cond.code yX3_isProxy cX3_isProxy 5 (some .boolean), Cond.fieldLink RX3 38 "BoxVaultModel" "proxies" "[I", Cond.fieldLink RX3 41 "BoxVaultModel" "proxy" "[I", Cond.fieldLink RX3 44 "BoxVaultModel" "from" "[I", Cond.fieldLink RX3 47 "BoxVaultModel" "to" "[I", Cond.methodLink RX3 103 yX3_fails, Cond.instanceMethod yX3_fails, Cond.selects RX3 yX3_fails yX3_fails, Cond.code yX3_fails cX3_fails 2 (some .int)]
def wsX3_may : List Cond := .code yX3_may cX3_may 3 (some .int) :: ((wsX3_may_r1 ++ (wsX3_may_r2 ++ wsX3_may_r3)) ++ wsX30)
def wsX3_mayAll_r1 : List Cond := [Cond.fieldLink RX3 65 "BoxVaultModel" "thrown" "I", Cond.methodLink RX3 107 yX3_isBox, Cond.static yX3_isBox, Cond.initialized RX3, Cond.code yX3_isBox cX3_isBox 1 (some .boolean), Cond.methodLink RX3 69 yX3_in, Cond.static yX3_in, Cond.code yX3_in cX3_in 3 (some .boolean), Cond.methodLink RX3 103 yX3_fails, Cond.instanceMethod yX3_fails, Cond.selects RX3 yX3_fails yX3_fails, Cond.code yX3_fails cX3_fails 2 (some .int), Cond.methodLink RX3 113 yX3_right, Cond.instanceMethod yX3_right, Cond.selects RX3 yX3_right yX3_right, Cond.code yX3_right cX3_right 4 (some .int), Cond.fieldLink RX3 7 "BoxVaultModel" "dead" "[Z", Cond.fieldLink RX3 23 "BoxVaultModel" "holder" "[I", Cond.fieldLink RX3 32 "BoxVaultModel" "looked" "[Z", Cond.methodLink RX3 80 yX3_isRented, Cond.instanceMethod yX3_isRented, Cond.selects RX3 yX3_isRented yX3_isRented, Cond.code yX3_isRented cX3_isRented 2 (some .boolean), Cond.fieldLink RX3 20 "BoxVaultModel" "state" "[I"]
def wsX3_mayAll_r2 : List Cond := [Cond.methodLink RX3 91 yX3_binds, Cond.instanceMethod yX3_binds, Cond.selects RX3 yX3_binds yX3_binds, Cond.code yX3_binds cX3_binds 5 (some .int), Cond.fieldLink RX3 84 "BoxVaultModel" "orders" "I", Cond.fieldLink RX3 62 "BoxVaultModel" "holds" "[Z", Cond.fieldLink RX3 50 "BoxVaultModel" "at" "[I", Cond.fieldLink RX3 53 "BoxVaultModel" "court" "[I", Cond.methodLink RX3 94 yX3_isOrdered, Cond.instanceMethod yX3_isOrdered, Cond.selects RX3 yX3_isOrdered yX3_isOrdered, Cond.code yX3_isOrdered cX3_isOrdered 4 (some .boolean), Cond.fieldLink RX3 56 "BoxVaultModel" "kind" "[I", Cond.fieldLink RX3 59 "BoxVaultModel" "alone" "[I", Cond.methodLink RX3 87 yX3_isHeir, Cond.instanceMethod yX3_isHeir, Cond.selects RX3 yX3_isHeir yX3_isHeir, Cond.code yX3_isHeir cX3_isHeir 3 (some .boolean), Cond.fieldLink RX3 13 "BoxVaultModel" "heirs" "[I", Cond.methodLink RX3 97 yX3_noticesOf, Cond.instanceMethod yX3_noticesOf, Cond.selects RX3 yX3_noticesOf yX3_noticesOf, Cond.code yX3_noticesOf cX3_noticesOf 3 (some .int), Cond.methodLink RX3 76 yX3_overdue]
def wsX3_mayAll_r3 : List Cond := [Cond.instanceMethod yX3_overdue, Cond.selects RX3 yX3_overdue yX3_overdue, Cond.code yX3_overdue cX3_overdue 2 (some .int), Cond.fieldLink RX3 73 "BoxVaultModel" "now" "I", Cond.fieldLink RX3 26 "BoxVaultModel" "paid" "[I", Cond.methodLink RX3 100 yX3_isProxy, Cond.instanceMethod yX3_isProxy, Cond.selects RX3 yX3_isProxy yX3_isProxy, Cond.code yX3_isProxy cX3_isProxy 5 (some .boolean), Cond.fieldLink RX3 38 "BoxVaultModel" "proxies" "[I", Cond.fieldLink RX3 41 "BoxVaultModel" "proxy" "[I", Cond.fieldLink RX3 44 "BoxVaultModel" "from" "[I", Cond.fieldLink RX3 47 "BoxVaultModel" "to" "[I"]
def wsX3_mayAll : List Cond := .code yX3_mayAll cX3_mayAll 4 (some .int) :: ((wsX3_mayAll_r1 ++ (wsX3_mayAll_r2 ++ wsX3_mayAll_r3)) ++ wsX30)
def wsX3_holder : List Cond := .code yX3_holder cX3_holder 2 (some .int) :: ([.fieldLink RX3 65 "BoxVaultModel" "thrown" "I", .fieldLink RX3 20 "BoxVaultModel" "state" "[I", .fieldLink RX3 23 "BoxVaultModel" "holder" "[I", .methodLink RX3 107 yX3_isBox, .static yX3_isBox, .initialized RX3, .code yX3_isBox cX3_isBox 1 (some .boolean), .methodLink RX3 69 yX3_in, .static yX3_in, .code yX3_in cX3_in 3 (some .boolean), .methodLink RX3 103 yX3_fails, .instanceMethod yX3_fails, .selects RX3 yX3_fails yX3_fails, .code yX3_fails cX3_fails 2 (some .int)] ++ wsX30)
def wsX3_notices_r1 : List Cond := [Cond.fieldLink RX3 65 "BoxVaultModel" "thrown" "I", Cond.methodLink RX3 107 yX3_isBox, Cond.static yX3_isBox, Cond.initialized RX3, Cond.code yX3_isBox cX3_isBox 1 (some .boolean), Cond.methodLink RX3 69 yX3_in, Cond.static yX3_in, Cond.code yX3_in cX3_in 3 (some .boolean), Cond.methodLink RX3 97 yX3_noticesOf, Cond.instanceMethod yX3_noticesOf, Cond.selects RX3 yX3_noticesOf yX3_noticesOf, Cond.code yX3_noticesOf cX3_noticesOf 3 (some .int), Cond.methodLink RX3 76 yX3_overdue, Cond.instanceMethod yX3_overdue, Cond.selects RX3 yX3_overdue yX3_overdue, Cond.code yX3_overdue cX3_overdue 2 (some .int), Cond.fieldLink RX3 73 "BoxVaultModel" "now" "I", Cond.fieldLink RX3 26 "BoxVaultModel" "paid" "[I", Cond.methodLink RX3 80 yX3_isRented, Cond.instanceMethod yX3_isRented, Cond.selects RX3 yX3_isRented yX3_isRented, Cond.code yX3_isRented cX3_isRented 2 (some .boolean), Cond.fieldLink RX3 20 "BoxVaultModel" "state" "[I", Cond.methodLink RX3 103 yX3_fails]
def wsX3_notices_r2 : List Cond := [Cond.instanceMethod yX3_fails, Cond.selects RX3 yX3_fails yX3_fails, Cond.code yX3_fails cX3_fails 2 (some .int)]
def wsX3_notices : List Cond := .code yX3_notices cX3_notices 2 (some .int) :: ((wsX3_notices_r1 ++ wsX3_notices_r2) ++ wsX30)
def wsX3_refusals : List Cond := .code yX3_refusals cX3_refusals 2 (some .int) :: ([.fieldLink RX3 65 "BoxVaultModel" "thrown" "I", .fieldLink RX3 17 "BoxVaultModel" "refusals" "[I", .methodLink RX3 110 yX3_isPerson, .static yX3_isPerson, .initialized RX3, .code yX3_isPerson cX3_isPerson 1 (some .boolean), .methodLink RX3 69 yX3_in, .static yX3_in, .code yX3_in cX3_in 3 (some .boolean), .methodLink RX3 103 yX3_fails, .instanceMethod yX3_fails, .selects RX3 yX3_fails yX3_fails, .code yX3_fails cX3_fails 2 (some .int)] ++ wsX30)
def wsX3_binding : List Cond := .code yX3_binding cX3_binding 2 (some .int) :: ([.fieldLink RX3 65 "BoxVaultModel" "thrown" "I", .methodLink RX3 107 yX3_isBox, .static yX3_isBox, .initialized RX3, .code yX3_isBox cX3_isBox 1 (some .boolean), .methodLink RX3 69 yX3_in, .static yX3_in, .code yX3_in cX3_in 3 (some .boolean), .methodLink RX3 91 yX3_binds, .instanceMethod yX3_binds, .selects RX3 yX3_binds yX3_binds, .code yX3_binds cX3_binds 5 (some .int), .fieldLink RX3 84 "BoxVaultModel" "orders" "I", .fieldLink RX3 62 "BoxVaultModel" "holds" "[Z", .fieldLink RX3 50 "BoxVaultModel" "at" "[I", .fieldLink RX3 53 "BoxVaultModel" "court" "[I", .methodLink RX3 103 yX3_fails, .instanceMethod yX3_fails, .selects RX3 yX3_fails yX3_fails, .code yX3_fails cX3_fails 2 (some .int)] ++ wsX30)
def wsJ9_max_7cf53 : List Cond := .code yJ9_max_7cf53 cJ9_max_7cf53 2 (some .int) :: ([])
def wsJ9_min_7cf53 : List Cond := .code yJ9_min_7cf53 cJ9_min_7cf53 2 (some .int) :: ([])
def wsL_pass : List Cond := .codeWith yL_pass cL_pass 4 (some .int) [(0, 9, 12, 13), (0, 9, 15, 15)] :: ([.classLink RL 13 "java/lang/IllegalArgumentException", .classLink RL 15 "java/lang/IllegalStateException", .methodLink RL 7 yX2_pass, .instanceMethod yX2_pass, .selects RX2 yX2_pass yX2_pass, .initialized RX2, .code yX2_pass cX2_pass 2 (some .int), .classLink RX2 43 "java/lang/IllegalStateException", .initialized "java/lang/IllegalStateException", .constant RX2 42 (99999), .fieldLink RX2 33 "BoxVault" "today" "I", .methodLink RX2 38 yX2_requireRange, .static yX2_requireRange, .code yX2_requireRange cX2_requireRange 3 none, .classLink RX2 94 "java/lang/IllegalArgumentException", .initialized "java/lang/IllegalArgumentException"] ++ wsX20 ++ (vx_atS RX2 47 "java/lang/IllegalStateException" ["java/lang/RuntimeException", "java/lang/Exception"]).filter goodWord ++ (vx_atS RX2 98 "java/lang/IllegalArgumentException" ["java/lang/RuntimeException", "java/lang/Exception"]).filter goodWord)
def wsL_rent_r1 : List Cond := [Cond.classLink RL 13 "java/lang/IllegalArgumentException", Cond.classLink RL 15 "java/lang/IllegalStateException", Cond.methodLink RL 17 yX2_rent, Cond.instanceMethod yX2_rent, Cond.selects RX2 yX2_rent yX2_rent, Cond.initialized RX2, Cond.code yX2_rent cX2_rent 5 (some .int), Cond.classLink RX2 43 "java/lang/IllegalStateException", Cond.initialized "java/lang/IllegalStateException", Cond.fieldLink RX2 33 "BoxVault" "today" "I", Cond.methodLink RX2 50 yX2_boxAt, Cond.instanceMethod yX2_boxAt, Cond.selects RX2 yX2_boxAt yX2_boxAt, Cond.code yX2_boxAt cX2_boxAt 2 (some (.object "BoxVault$Box")), Cond.fieldLink RX2 11 "BoxVault" "boxes" "[LBoxVault$Box;", Cond.methodLink RX2 38 yX2_requireRange, Cond.static yX2_requireRange, Cond.code yX2_requireRange cX2_requireRange 3 none, Cond.classLink RX2 94 "java/lang/IllegalArgumentException", Cond.initialized "java/lang/IllegalArgumentException", Cond.methodLink RX2 54 yX2_requirePerson, Cond.static yX2_requirePerson, Cond.code yX2_requirePerson cX2_requirePerson 1 none, Cond.instanceMethod yX0_isFree]
def wsL_rent_r2 : List Cond := [Cond.initialized RX0, Cond.selects RX0 yX0_isFree yX0_isFree, Cond.code yX0_isFree cX0_isFree 1 (some .boolean), Cond.fieldLink RX0 11 "BoxVault$Box" "state" "I", Cond.methodLink RX2 64 yX2_isAlive, Cond.instanceMethod yX2_isAlive, Cond.selects RX2 yX2_isAlive yX2_isAlive, Cond.code yX2_isAlive cX2_isAlive 2 (some .boolean), Cond.fieldLink RX2 22 "BoxVault" "dead" "[Z", Cond.methodLink RX2 201 yX2_isPerson, Cond.static yX2_isPerson, Cond.code yX2_isPerson cX2_isPerson 1 (some .boolean), Cond.instanceMethod yX0_startRent, Cond.selects RX0 yX0_startRent yX0_startRent, Cond.code yX0_startRent cX0_startRent 3 none, Cond.fieldLink RX0 15 "BoxVault$Box" "holder" "I", Cond.fieldLink RX0 18 "BoxVault$Box" "paidUpTo" "I", Cond.fieldLink RX0 24 "BoxVault$Box" "entries" "I", Cond.fieldLink RX0 27 "BoxVault$Box" "willSought" "Z"]
def wsL_rent : List Cond := .codeWith yL_rent cL_rent 6 (some .int) [(0, 12, 15, 13), (0, 12, 19, 15)] :: ((wsL_rent_r1 ++ wsL_rent_r2) ++ wsX20 ++ wsX00 ++ (vx_atS RX2 47 "java/lang/IllegalStateException" ["java/lang/RuntimeException", "java/lang/Exception"]).filter goodWord ++ (vx_atS RX2 98 "java/lang/IllegalArgumentException" ["java/lang/RuntimeException", "java/lang/Exception"]).filter goodWord)
def wsL_extend_r1 : List Cond := [Cond.classLink RL 13 "java/lang/IllegalArgumentException", Cond.classLink RL 15 "java/lang/IllegalStateException", Cond.methodLink RL 21 yX2_extend, Cond.instanceMethod yX2_extend, Cond.selects RX2 yX2_extend yX2_extend, Cond.initialized RX2, Cond.code yX2_extend cX2_extend 4 (some .int), Cond.methodLink RX2 50 yX2_boxAt, Cond.instanceMethod yX2_boxAt, Cond.selects RX2 yX2_boxAt yX2_boxAt, Cond.code yX2_boxAt cX2_boxAt 2 (some (.object "BoxVault$Box")), Cond.fieldLink RX2 11 "BoxVault" "boxes" "[LBoxVault$Box;", Cond.methodLink RX2 38 yX2_requireRange, Cond.static yX2_requireRange, Cond.code yX2_requireRange cX2_requireRange 3 none, Cond.classLink RX2 94 "java/lang/IllegalArgumentException", Cond.initialized "java/lang/IllegalArgumentException", Cond.methodLink RX2 77 yX2_requireRented, Cond.static yX2_requireRented, Cond.code yX2_requireRented cX2_requireRented 1 none, Cond.classLink RX2 43 "java/lang/IllegalStateException", Cond.initialized "java/lang/IllegalStateException", Cond.instanceMethod yX0_isRented, Cond.initialized RX0]
def wsL_extend_r2 : List Cond := [Cond.selects RX0 yX0_isRented yX0_isRented, Cond.code yX0_isRented cX0_isRented 1 (some .boolean), Cond.fieldLink RX0 11 "BoxVault$Box" "state" "I"]
def wsL_extend : List Cond := .codeWith yL_extend cL_extend 5 (some .int) [(0, 10, 13, 13), (0, 10, 17, 15)] :: ((wsL_extend_r1 ++ wsL_extend_r2) ++ wsX00 ++ wsX20 ++ (vx_atS RX2 98 "java/lang/IllegalArgumentException" ["java/lang/RuntimeException", "java/lang/Exception"]).filter goodWord ++ (vx_atS RX2 47 "java/lang/IllegalStateException" ["java/lang/RuntimeException", "java/lang/Exception"]).filter goodWord)
def wsL_giveBack_r1 : List Cond := [Cond.classLink RL 13 "java/lang/IllegalArgumentException", Cond.classLink RL 15 "java/lang/IllegalStateException", Cond.methodLink RL 25 yX2_giveBack, Cond.instanceMethod yX2_giveBack, Cond.selects RX2 yX2_giveBack yX2_giveBack, Cond.initialized RX2, Cond.code yX2_giveBack cX2_giveBack 5 (some .int), Cond.classLink RX2 43 "java/lang/IllegalStateException", Cond.initialized "java/lang/IllegalStateException", Cond.methodLink RX2 50 yX2_boxAt, Cond.instanceMethod yX2_boxAt, Cond.selects RX2 yX2_boxAt yX2_boxAt, Cond.code yX2_boxAt cX2_boxAt 2 (some (.object "BoxVault$Box")), Cond.fieldLink RX2 11 "BoxVault" "boxes" "[LBoxVault$Box;", Cond.methodLink RX2 38 yX2_requireRange, Cond.static yX2_requireRange, Cond.code yX2_requireRange cX2_requireRange 3 none, Cond.classLink RX2 94 "java/lang/IllegalArgumentException", Cond.initialized "java/lang/IllegalArgumentException", Cond.methodLink RX2 54 yX2_requirePerson, Cond.static yX2_requirePerson, Cond.code yX2_requirePerson cX2_requirePerson 1 none, Cond.methodLink RX2 77 yX2_requireRented, Cond.static yX2_requireRented]
def wsL_giveBack_r2 : List Cond := [Cond.code yX2_requireRented cX2_requireRented 1 none, Cond.instanceMethod yX0_isRented, Cond.initialized RX0, Cond.selects RX0 yX0_isRented yX0_isRented, Cond.code yX0_isRented cX0_isRented 1 (some .boolean), Cond.fieldLink RX0 11 "BoxVault$Box" "state" "I", Cond.methodLink RX2 81 yX2_rightOf, Cond.instanceMethod yX2_rightOf, Cond.selects RX2 yX2_rightOf yX2_rightOf, Cond.code yX2_rightOf cX2_rightOf 5 (some .int), Cond.fieldLink RX2 18 "BoxVault" "orders" "LBoxVault$OrderBook;", Cond.methodLink RX2 64 yX2_isAlive, Cond.instanceMethod yX2_isAlive, Cond.selects RX2 yX2_isAlive yX2_isAlive, Cond.code yX2_isAlive cX2_isAlive 2 (some .boolean), Cond.fieldLink RX2 22 "BoxVault" "dead" "[Z", Cond.methodLink RX2 201 yX2_isPerson, Cond.static yX2_isPerson, Cond.code yX2_isPerson cX2_isPerson 1 (some .boolean), Cond.instanceMethod yX1_bindingOn, Cond.initialized RX1, Cond.selects RX1 yX1_bindingOn yX1_bindingOn, Cond.code yX1_bindingOn cX1_bindingOn 4 (some .int), Cond.fieldLink RX1 9 "BoxVault$OrderBook" "count" "I"]
def wsL_giveBack_r3 : List Cond := [Cond.fieldLink RX1 28 "BoxVault$OrderBook" "holds" "[Z", Cond.fieldLink RX1 15 "BoxVault$OrderBook" "box" "[I", Cond.fieldLink RX1 19 "BoxVault$OrderBook" "court" "[I", Cond.methodLink RX2 204 yX2_orderAllows, Cond.instanceMethod yX2_orderAllows, Cond.selects RX2 yX2_orderAllows yX2_orderAllows, Cond.code yX2_orderAllows cX2_orderAllows 4 (some .boolean), Cond.instanceMethod yX1_kindOf, Cond.selects RX1 yX1_kindOf yX1_kindOf, Cond.code yX1_kindOf cX1_kindOf 2 (some .int), Cond.fieldLink RX1 22 "BoxVault$OrderBook" "kind" "[I", Cond.methodLink RX1 32 yX1_has, Cond.instanceMethod yX1_has, Cond.selects RX1 yX1_has yX1_has, Cond.code yX1_has cX1_has 2 (some .boolean), Cond.instanceMethod yX1_personOf, Cond.selects RX1 yX1_personOf yX1_personOf, Cond.code yX1_personOf cX1_personOf 2 (some .int), Cond.fieldLink RX1 25 "BoxVault$OrderBook" "person" "[I", Cond.methodLink RX2 213 yX2_isHeirOfDead, Cond.instanceMethod yX2_isHeirOfDead, Cond.selects RX2 yX2_isHeirOfDead yX2_isHeirOfDead, Cond.code yX2_isHeirOfDead cX2_isHeirOfDead 3 (some .boolean), Cond.methodLink RX2 153 yX2_isHeir]
def wsL_giveBack_r4 : List Cond := [Cond.instanceMethod yX2_isHeir, Cond.selects RX2 yX2_isHeir yX2_isHeir, Cond.code yX2_isHeir cX2_isHeir 3 (some .boolean), Cond.fieldLink RX2 26 "BoxVault" "heirs" "[I", Cond.methodLink RX2 207 yX2_holderAllows, Cond.instanceMethod yX2_holderAllows, Cond.selects RX2 yX2_holderAllows yX2_holderAllows, Cond.code yX2_holderAllows cX2_holderAllows 3 (some .boolean), Cond.fieldLink RX2 33 "BoxVault" "today" "I", Cond.instanceMethod yX0_noticesOn, Cond.selects RX0 yX0_noticesOn yX0_noticesOn, Cond.code yX0_noticesOn cX0_noticesOn 2 (some .int), Cond.methodLink RX0 57 Lib.Math.min.name, Cond.static Lib.Math.min.name, Cond.initialized "java/lang/Math", Cond.code Lib.Math.min.name Lib.Math.min.code 2 (some .int), Cond.methodLink RX0 44 yX0_overdueOn, Cond.instanceMethod yX0_overdueOn, Cond.selects RX0 yX0_overdueOn yX0_overdueOn, Cond.code yX0_overdueOn cX0_overdueOn 2 (some .int), Cond.fieldLink RX0 18 "BoxVault$Box" "paidUpTo" "I", Cond.methodLink RX0 51 Lib.Math.max.name, Cond.static Lib.Math.max.name, Cond.code Lib.Math.max.name Lib.Math.max.code 2 (some .int)]
def wsL_giveBack_r5 : List Cond := [Cond.instanceMethod yX0_hasProxyOn, Cond.selects RX0 yX0_hasProxyOn yX0_hasProxyOn, Cond.code yX0_hasProxyOn cX0_hasProxyOn 4 (some .boolean), Cond.fieldLink RX0 31 "BoxVault$Box" "proxyCount" "I", Cond.fieldLink RX0 34 "BoxVault$Box" "proxyPerson" "[I", Cond.fieldLink RX0 38 "BoxVault$Box" "proxyFirst" "[I", Cond.fieldLink RX0 41 "BoxVault$Box" "proxyLast" "[I", Cond.methodLink RX2 90 yX2_makeFree, Cond.instanceMethod yX2_makeFree, Cond.selects RX2 yX2_makeFree yX2_makeFree, Cond.code yX2_makeFree cX2_makeFree 3 none, Cond.instanceMethod yX0_empty, Cond.selects RX0 yX0_empty yX0_empty, Cond.code yX0_empty cX0_empty 1 none, Cond.fieldLink RX0 15 "BoxVault$Box" "holder" "I", Cond.methodLink RX0 48 yX0_endProxies, Cond.instanceMethod yX0_endProxies, Cond.selects RX0 yX0_endProxies yX0_endProxies, Cond.code yX0_endProxies cX0_endProxies 1 none, Cond.instanceMethod yX1_endAllOn, Cond.selects RX1 yX1_endAllOn yX1_endAllOn, Cond.code yX1_endAllOn cX1_endAllOn 3 none]
def wsL_giveBack : List Cond := .codeWith yL_giveBack cL_giveBack 5 (some .int) [(0, 10, 13, 13), (0, 10, 17, 15)] :: ((wsL_giveBack_r1 ++ (wsL_giveBack_r2 ++ (wsL_giveBack_r3 ++ (wsL_giveBack_r4 ++ wsL_giveBack_r5)))) ++ wsX00 ++ wsX20 ++ wsX10 ++ (vx_atS RX2 47 "java/lang/IllegalStateException" ["java/lang/RuntimeException", "java/lang/Exception"]).filter goodWord ++ (vx_atS RX2 98 "java/lang/IllegalArgumentException" ["java/lang/RuntimeException", "java/lang/Exception"]).filter goodWord)
def wsL_drill_r1 : List Cond := [Cond.classLink RL 13 "java/lang/IllegalArgumentException", Cond.classLink RL 15 "java/lang/IllegalStateException", Cond.methodLink RL 28 yX2_drill, Cond.instanceMethod yX2_drill, Cond.selects RX2 yX2_drill yX2_drill, Cond.initialized RX2, Cond.code yX2_drill cX2_drill 5 (some .int), Cond.classLink RX2 94 "java/lang/IllegalArgumentException", Cond.initialized "java/lang/IllegalArgumentException", Cond.classLink RX2 43 "java/lang/IllegalStateException", Cond.initialized "java/lang/IllegalStateException", Cond.fieldLink RX2 33 "BoxVault" "today" "I", Cond.fieldLink RX2 18 "BoxVault" "orders" "LBoxVault$OrderBook;", Cond.methodLink RX2 50 yX2_boxAt, Cond.instanceMethod yX2_boxAt, Cond.selects RX2 yX2_boxAt yX2_boxAt, Cond.code yX2_boxAt cX2_boxAt 2 (some (.object "BoxVault$Box")), Cond.fieldLink RX2 11 "BoxVault" "boxes" "[LBoxVault$Box;", Cond.methodLink RX2 38 yX2_requireRange, Cond.static yX2_requireRange, Cond.code yX2_requireRange cX2_requireRange 3 none, Cond.methodLink RX2 54 yX2_requirePerson, Cond.static yX2_requirePerson, Cond.code yX2_requirePerson cX2_requirePerson 1 none]
def wsL_drill_r2 : List Cond := [Cond.methodLink RX2 77 yX2_requireRented, Cond.static yX2_requireRented, Cond.code yX2_requireRented cX2_requireRented 1 none, Cond.instanceMethod yX0_isRented, Cond.initialized RX0, Cond.selects RX0 yX0_isRented yX0_isRented, Cond.code yX0_isRented cX0_isRented 1 (some .boolean), Cond.fieldLink RX0 11 "BoxVault$Box" "state" "I", Cond.instanceMethod yX0_noticesOn, Cond.selects RX0 yX0_noticesOn yX0_noticesOn, Cond.code yX0_noticesOn cX0_noticesOn 2 (some .int), Cond.methodLink RX0 57 Lib.Math.min.name, Cond.static Lib.Math.min.name, Cond.initialized "java/lang/Math", Cond.code Lib.Math.min.name Lib.Math.min.code 2 (some .int), Cond.methodLink RX0 44 yX0_overdueOn, Cond.instanceMethod yX0_overdueOn, Cond.selects RX0 yX0_overdueOn yX0_overdueOn, Cond.code yX0_overdueOn cX0_overdueOn 2 (some .int), Cond.fieldLink RX0 18 "BoxVault$Box" "paidUpTo" "I", Cond.methodLink RX0 51 Lib.Math.max.name, Cond.static Lib.Math.max.name, Cond.code Lib.Math.max.name Lib.Math.max.code 2 (some .int), Cond.methodLink RX2 105 yX2_canWitness]
def wsL_drill_r3 : List Cond := [Cond.instanceMethod yX2_canWitness, Cond.selects RX2 yX2_canWitness yX2_canWitness, Cond.code yX2_canWitness cX2_canWitness 3 (some .boolean), Cond.methodLink RX2 64 yX2_isAlive, Cond.instanceMethod yX2_isAlive, Cond.selects RX2 yX2_isAlive yX2_isAlive, Cond.code yX2_isAlive cX2_isAlive 2 (some .boolean), Cond.fieldLink RX2 22 "BoxVault" "dead" "[Z", Cond.methodLink RX2 201 yX2_isPerson, Cond.static yX2_isPerson, Cond.code yX2_isPerson cX2_isPerson 1 (some .boolean), Cond.instanceMethod yX1_bindingOn, Cond.initialized RX1, Cond.selects RX1 yX1_bindingOn yX1_bindingOn, Cond.code yX1_bindingOn cX1_bindingOn 4 (some .int), Cond.fieldLink RX1 9 "BoxVault$OrderBook" "count" "I", Cond.fieldLink RX1 28 "BoxVault$OrderBook" "holds" "[Z", Cond.fieldLink RX1 15 "BoxVault$OrderBook" "box" "[I", Cond.fieldLink RX1 19 "BoxVault$OrderBook" "court" "[I", Cond.instanceMethod yX1_kindOf, Cond.selects RX1 yX1_kindOf yX1_kindOf, Cond.code yX1_kindOf cX1_kindOf 2 (some .int), Cond.fieldLink RX1 22 "BoxVault$OrderBook" "kind" "[I", Cond.methodLink RX1 32 yX1_has]
def wsL_drill_r4 : List Cond := [Cond.instanceMethod yX1_has, Cond.selects RX1 yX1_has yX1_has, Cond.code yX1_has cX1_has 2 (some .boolean), Cond.instanceMethod yX0_breakOpen, Cond.selects RX0 yX0_breakOpen yX0_breakOpen, Cond.code yX0_breakOpen cX0_breakOpen 2 none, Cond.fieldLink RX0 21 "BoxVault$Box" "unpaidDays" "I"]
def wsL_drill : List Cond := .codeWith yL_drill cL_drill 6 (some .int) [(0, 12, 15, 13), (0, 12, 19, 15)] :: ((wsL_drill_r1 ++ (wsL_drill_r2 ++ (wsL_drill_r3 ++ wsL_drill_r4))) ++ wsX20 ++ wsX00 ++ wsX10 ++ (vx_atS RX2 98 "java/lang/IllegalArgumentException" ["java/lang/RuntimeException", "java/lang/Exception"]).filter goodWord ++ (vx_atS RX2 47 "java/lang/IllegalStateException" ["java/lang/RuntimeException", "java/lang/Exception"]).filter goodWord)
def wsL_fetch_r1 : List Cond := [Cond.classLink RL 13 "java/lang/IllegalArgumentException", Cond.classLink RL 15 "java/lang/IllegalStateException", Cond.methodLink RL 31 yX2_fetch, Cond.instanceMethod yX2_fetch, Cond.selects RX2 yX2_fetch yX2_fetch, Cond.initialized RX2, Cond.code yX2_fetch cX2_fetch 5 (some .int), Cond.classLink RX2 43 "java/lang/IllegalStateException", Cond.initialized "java/lang/IllegalStateException", Cond.methodLink RX2 50 yX2_boxAt, Cond.instanceMethod yX2_boxAt, Cond.selects RX2 yX2_boxAt yX2_boxAt, Cond.code yX2_boxAt cX2_boxAt 2 (some (.object "BoxVault$Box")), Cond.fieldLink RX2 11 "BoxVault" "boxes" "[LBoxVault$Box;", Cond.methodLink RX2 38 yX2_requireRange, Cond.static yX2_requireRange, Cond.code yX2_requireRange cX2_requireRange 3 none, Cond.classLink RX2 94 "java/lang/IllegalArgumentException", Cond.initialized "java/lang/IllegalArgumentException", Cond.methodLink RX2 54 yX2_requirePerson, Cond.static yX2_requirePerson, Cond.code yX2_requirePerson cX2_requirePerson 1 none, Cond.methodLink RX2 130 yX2_mayFetch, Cond.instanceMethod yX2_mayFetch]
def wsL_fetch_r2 : List Cond := [Cond.selects RX2 yX2_mayFetch yX2_mayFetch, Cond.code yX2_mayFetch cX2_mayFetch 5 (some .boolean), Cond.fieldLink RX2 18 "BoxVault" "orders" "LBoxVault$OrderBook;", Cond.methodLink RX2 64 yX2_isAlive, Cond.instanceMethod yX2_isAlive, Cond.selects RX2 yX2_isAlive yX2_isAlive, Cond.code yX2_isAlive cX2_isAlive 2 (some .boolean), Cond.fieldLink RX2 22 "BoxVault" "dead" "[Z", Cond.methodLink RX2 201 yX2_isPerson, Cond.static yX2_isPerson, Cond.code yX2_isPerson cX2_isPerson 1 (some .boolean), Cond.instanceMethod yX1_bindingOn, Cond.initialized RX1, Cond.selects RX1 yX1_bindingOn yX1_bindingOn, Cond.code yX1_bindingOn cX1_bindingOn 4 (some .int), Cond.fieldLink RX1 9 "BoxVault$OrderBook" "count" "I", Cond.fieldLink RX1 28 "BoxVault$OrderBook" "holds" "[Z", Cond.fieldLink RX1 15 "BoxVault$OrderBook" "box" "[I", Cond.fieldLink RX1 19 "BoxVault$OrderBook" "court" "[I", Cond.methodLink RX2 204 yX2_orderAllows, Cond.instanceMethod yX2_orderAllows, Cond.selects RX2 yX2_orderAllows yX2_orderAllows, Cond.code yX2_orderAllows cX2_orderAllows 4 (some .boolean), Cond.instanceMethod yX1_kindOf]
def wsL_fetch_r3 : List Cond := [Cond.selects RX1 yX1_kindOf yX1_kindOf, Cond.code yX1_kindOf cX1_kindOf 2 (some .int), Cond.fieldLink RX1 22 "BoxVault$OrderBook" "kind" "[I", Cond.methodLink RX1 32 yX1_has, Cond.instanceMethod yX1_has, Cond.selects RX1 yX1_has yX1_has, Cond.code yX1_has cX1_has 2 (some .boolean), Cond.instanceMethod yX1_personOf, Cond.selects RX1 yX1_personOf yX1_personOf, Cond.code yX1_personOf cX1_personOf 2 (some .int), Cond.fieldLink RX1 25 "BoxVault$OrderBook" "person" "[I", Cond.methodLink RX2 213 yX2_isHeirOfDead, Cond.instanceMethod yX2_isHeirOfDead, Cond.selects RX2 yX2_isHeirOfDead yX2_isHeirOfDead, Cond.code yX2_isHeirOfDead cX2_isHeirOfDead 3 (some .boolean), Cond.methodLink RX2 153 yX2_isHeir, Cond.instanceMethod yX2_isHeir, Cond.selects RX2 yX2_isHeir yX2_isHeir, Cond.code yX2_isHeir cX2_isHeir 3 (some .boolean), Cond.fieldLink RX2 26 "BoxVault" "heirs" "[I", Cond.methodLink RX2 90 yX2_makeFree, Cond.instanceMethod yX2_makeFree, Cond.selects RX2 yX2_makeFree yX2_makeFree, Cond.code yX2_makeFree cX2_makeFree 3 none]
def wsL_fetch_r4 : List Cond := [Cond.instanceMethod yX0_empty, Cond.initialized RX0, Cond.selects RX0 yX0_empty yX0_empty, Cond.code yX0_empty cX0_empty 1 none, Cond.fieldLink RX0 11 "BoxVault$Box" "state" "I", Cond.fieldLink RX0 15 "BoxVault$Box" "holder" "I", Cond.methodLink RX0 48 yX0_endProxies, Cond.instanceMethod yX0_endProxies, Cond.selects RX0 yX0_endProxies yX0_endProxies, Cond.code yX0_endProxies cX0_endProxies 1 none, Cond.fieldLink RX0 31 "BoxVault$Box" "proxyCount" "I", Cond.instanceMethod yX1_endAllOn, Cond.selects RX1 yX1_endAllOn yX1_endAllOn, Cond.code yX1_endAllOn cX1_endAllOn 3 none]
def wsL_fetch : List Cond := .codeWith yL_fetch cL_fetch 5 (some .int) [(0, 10, 13, 13), (0, 10, 17, 15)] :: ((wsL_fetch_r1 ++ (wsL_fetch_r2 ++ (wsL_fetch_r3 ++ wsL_fetch_r4))) ++ wsX00 ++ wsX20 ++ wsX10 ++ (vx_atS RX2 47 "java/lang/IllegalStateException" ["java/lang/RuntimeException", "java/lang/Exception"]).filter goodWord ++ (vx_atS RX2 98 "java/lang/IllegalArgumentException" ["java/lang/RuntimeException", "java/lang/Exception"]).filter goodWord)
def wsL_proxy_r1 : List Cond := [Cond.classLink RL 13 "java/lang/IllegalArgumentException", Cond.classLink RL 15 "java/lang/IllegalStateException", Cond.methodLink RL 34 yX2_proxy, Cond.instanceMethod yX2_proxy, Cond.selects RX2 yX2_proxy yX2_proxy, Cond.initialized RX2, Cond.code yX2_proxy cX2_proxy 6 (some .int), Cond.classLink RX2 43 "java/lang/IllegalStateException", Cond.initialized "java/lang/IllegalStateException", Cond.constant RX2 42 (99999), Cond.methodLink RX2 50 yX2_boxAt, Cond.instanceMethod yX2_boxAt, Cond.selects RX2 yX2_boxAt yX2_boxAt, Cond.code yX2_boxAt cX2_boxAt 2 (some (.object "BoxVault$Box")), Cond.fieldLink RX2 11 "BoxVault" "boxes" "[LBoxVault$Box;", Cond.methodLink RX2 38 yX2_requireRange, Cond.static yX2_requireRange, Cond.code yX2_requireRange cX2_requireRange 3 none, Cond.classLink RX2 94 "java/lang/IllegalArgumentException", Cond.initialized "java/lang/IllegalArgumentException", Cond.methodLink RX2 54 yX2_requirePerson, Cond.static yX2_requirePerson, Cond.code yX2_requirePerson cX2_requirePerson 1 none, Cond.methodLink RX2 77 yX2_requireRented]
def wsL_proxy_r2 : List Cond := [Cond.static yX2_requireRented, Cond.code yX2_requireRented cX2_requireRented 1 none, Cond.instanceMethod yX0_isRented, Cond.initialized RX0, Cond.selects RX0 yX0_isRented yX0_isRented, Cond.code yX0_isRented cX0_isRented 1 (some .boolean), Cond.fieldLink RX0 11 "BoxVault$Box" "state" "I", Cond.methodLink RX2 64 yX2_isAlive, Cond.instanceMethod yX2_isAlive, Cond.selects RX2 yX2_isAlive yX2_isAlive, Cond.code yX2_isAlive cX2_isAlive 2 (some .boolean), Cond.fieldLink RX2 22 "BoxVault" "dead" "[Z", Cond.methodLink RX2 201 yX2_isPerson, Cond.static yX2_isPerson, Cond.code yX2_isPerson cX2_isPerson 1 (some .boolean), Cond.instanceMethod yX0_addProxy, Cond.selects RX0 yX0_addProxy yX0_addProxy, Cond.code yX0_addProxy cX0_addProxy 4 none, Cond.fieldLink RX0 31 "BoxVault$Box" "proxyCount" "I", Cond.fieldLink RX0 34 "BoxVault$Box" "proxyPerson" "[I", Cond.fieldLink RX0 38 "BoxVault$Box" "proxyFirst" "[I", Cond.fieldLink RX0 41 "BoxVault$Box" "proxyLast" "[I"]
def wsL_proxy : List Cond := .codeWith yL_proxy cL_proxy 7 (some .int) [(0, 14, 17, 13), (0, 14, 21, 15)] :: ((wsL_proxy_r1 ++ wsL_proxy_r2) ++ wsX00 ++ wsX20 ++ (vx_atS RX2 47 "java/lang/IllegalStateException" ["java/lang/RuntimeException", "java/lang/Exception"]).filter goodWord ++ (vx_atS RX2 98 "java/lang/IllegalArgumentException" ["java/lang/RuntimeException", "java/lang/Exception"]).filter goodWord)
def wsL_heir : List Cond := .codeWith yL_heir cL_heir 6 (some .int) [(0, 19, 22, 13)] :: ([.classLink RL 13 "java/lang/IllegalArgumentException", .methodLink RL 38 yX2_heir, .instanceMethod yX2_heir, .selects RX2 yX2_heir yX2_heir, .initialized RX2, .code yX2_heir cX2_heir 6 (some .boolean), .classLink RX2 94 "java/lang/IllegalArgumentException", .initialized "java/lang/IllegalArgumentException", .fieldLink RX2 26 "BoxVault" "heirs" "[I", .methodLink RX2 54 yX2_requirePerson, .static yX2_requirePerson, .code yX2_requirePerson cX2_requirePerson 1 none, .methodLink RX2 38 yX2_requireRange, .static yX2_requireRange, .code yX2_requireRange cX2_requireRange 3 none, .methodLink RX2 153 yX2_isHeir, .instanceMethod yX2_isHeir, .selects RX2 yX2_isHeir yX2_isHeir, .code yX2_isHeir cX2_isHeir 3 (some .boolean), .methodLink RX2 201 yX2_isPerson, .static yX2_isPerson, .code yX2_isPerson cX2_isPerson 1 (some .boolean)] ++ wsX20 ++ (vx_atS RX2 98 "java/lang/IllegalArgumentException" ["java/lang/RuntimeException", "java/lang/Exception"]).filter goodWord)
def wsL_die_r1 : List Cond := [Cond.classLink RL 13 "java/lang/IllegalArgumentException", Cond.classLink RL 15 "java/lang/IllegalStateException", Cond.methodLink RL 42 yX2_die, Cond.instanceMethod yX2_die, Cond.selects RX2 yX2_die yX2_die, Cond.initialized RX2, Cond.code yX2_die cX2_die 4 (some .int), Cond.classLink RX2 43 "java/lang/IllegalStateException", Cond.initialized "java/lang/IllegalStateException", Cond.fieldLink RX2 22 "BoxVault" "dead" "[Z", Cond.fieldLink RX2 11 "BoxVault" "boxes" "[LBoxVault$Box;", Cond.methodLink RX2 54 yX2_requirePerson, Cond.static yX2_requirePerson, Cond.code yX2_requirePerson cX2_requirePerson 1 none, Cond.methodLink RX2 38 yX2_requireRange, Cond.static yX2_requireRange, Cond.code yX2_requireRange cX2_requireRange 3 none, Cond.classLink RX2 94 "java/lang/IllegalArgumentException", Cond.initialized "java/lang/IllegalArgumentException", Cond.instanceMethod yX0_endProxies, Cond.initialized RX0, Cond.selects RX0 yX0_endProxies yX0_endProxies, Cond.code yX0_endProxies cX0_endProxies 1 none, Cond.fieldLink RX0 31 "BoxVault$Box" "proxyCount" "I"]
def wsL_die_r2 : List Cond := [Cond.instanceMethod yX0_isRented, Cond.selects RX0 yX0_isRented yX0_isRented, Cond.code yX0_isRented cX0_isRented 1 (some .boolean), Cond.fieldLink RX0 11 "BoxVault$Box" "state" "I"]
def wsL_die : List Cond := .codeWith yL_die cL_die 4 (some .int) [(0, 9, 12, 13), (0, 9, 15, 15)] :: ((wsL_die_r1 ++ wsL_die_r2) ++ wsX20 ++ wsX00 ++ (vx_atS RX2 47 "java/lang/IllegalStateException" ["java/lang/RuntimeException", "java/lang/Exception"]).filter goodWord ++ (vx_atS RX2 98 "java/lang/IllegalArgumentException" ["java/lang/RuntimeException", "java/lang/Exception"]).filter goodWord)
def wsL_order_r1 : List Cond := [Cond.classLink RL 13 "java/lang/IllegalArgumentException", Cond.classLink RL 15 "java/lang/IllegalStateException", Cond.methodLink RL 45 yX2_order, Cond.instanceMethod yX2_order, Cond.selects RX2 yX2_order yX2_order, Cond.initialized RX2, Cond.code yX2_order cX2_order 6 (some .int), Cond.classLink RX2 43 "java/lang/IllegalStateException", Cond.initialized "java/lang/IllegalStateException", Cond.fieldLink RX2 18 "BoxVault" "orders" "LBoxVault$OrderBook;", Cond.methodLink RX2 50 yX2_boxAt, Cond.instanceMethod yX2_boxAt, Cond.selects RX2 yX2_boxAt yX2_boxAt, Cond.code yX2_boxAt cX2_boxAt 2 (some (.object "BoxVault$Box")), Cond.fieldLink RX2 11 "BoxVault" "boxes" "[LBoxVault$Box;", Cond.methodLink RX2 38 yX2_requireRange, Cond.static yX2_requireRange, Cond.code yX2_requireRange cX2_requireRange 3 none, Cond.classLink RX2 94 "java/lang/IllegalArgumentException", Cond.initialized "java/lang/IllegalArgumentException", Cond.methodLink RX2 54 yX2_requirePerson, Cond.static yX2_requirePerson, Cond.code yX2_requirePerson cX2_requirePerson 1 none, Cond.instanceMethod yX0_isFree]
def wsL_order_r2 : List Cond := [Cond.initialized RX0, Cond.selects RX0 yX0_isFree yX0_isFree, Cond.code yX0_isFree cX0_isFree 1 (some .boolean), Cond.fieldLink RX0 11 "BoxVault$Box" "state" "I", Cond.instanceMethod yX1_isFull, Cond.initialized RX1, Cond.selects RX1 yX1_isFull yX1_isFull, Cond.code yX1_isFull cX1_isFull 1 (some .boolean), Cond.fieldLink RX1 9 "BoxVault$OrderBook" "count" "I", Cond.instanceMethod yX1_add, Cond.selects RX1 yX1_add yX1_add, Cond.code yX1_add cX1_add 6 (some .int), Cond.fieldLink RX1 15 "BoxVault$OrderBook" "box" "[I", Cond.fieldLink RX1 19 "BoxVault$OrderBook" "court" "[I", Cond.fieldLink RX1 22 "BoxVault$OrderBook" "kind" "[I", Cond.fieldLink RX1 25 "BoxVault$OrderBook" "person" "[I", Cond.fieldLink RX1 28 "BoxVault$OrderBook" "holds" "[Z"]
def wsL_order : List Cond := .codeWith yL_order cL_order 7 (some .int) [(0, 14, 17, 13), (0, 14, 21, 15)] :: ((wsL_order_r1 ++ wsL_order_r2) ++ wsX20 ++ wsX00 ++ wsX10 ++ (vx_atS RX2 47 "java/lang/IllegalStateException" ["java/lang/RuntimeException", "java/lang/Exception"]).filter goodWord ++ (vx_atS RX2 98 "java/lang/IllegalArgumentException" ["java/lang/RuntimeException", "java/lang/Exception"]).filter goodWord)
def wsL_lift_r1 : List Cond := [Cond.classLink RL 52 "java/lang/IndexOutOfBoundsException", Cond.classLink RL 15 "java/lang/IllegalStateException", Cond.methodLink RL 48 yX2_lift, Cond.instanceMethod yX2_lift, Cond.selects RX2 yX2_lift yX2_lift, Cond.initialized RX2, Cond.code yX2_lift cX2_lift 3 (some .boolean), Cond.classLink RX2 177 "java/lang/IndexOutOfBoundsException", Cond.initialized "java/lang/IndexOutOfBoundsException", Cond.classLink RX2 43 "java/lang/IllegalStateException", Cond.initialized "java/lang/IllegalStateException", Cond.fieldLink RX2 18 "BoxVault" "orders" "LBoxVault$OrderBook;", Cond.instanceMethod yX1_has, Cond.initialized RX1, Cond.selects RX1 yX1_has yX1_has, Cond.code yX1_has cX1_has 2 (some .boolean), Cond.fieldLink RX1 9 "BoxVault$OrderBook" "count" "I", Cond.instanceMethod yX1_isInForce, Cond.selects RX1 yX1_isInForce yX1_isInForce, Cond.code yX1_isInForce cX1_isInForce 2 (some .boolean), Cond.fieldLink RX1 28 "BoxVault$OrderBook" "holds" "[Z", Cond.methodLink RX1 32 yX1_has, Cond.instanceMethod yX1_isBinding, Cond.selects RX1 yX1_isBinding yX1_isBinding]
def wsL_lift_r2 : List Cond := [Cond.code yX1_isBinding cX1_isBinding 2 (some .boolean), Cond.fieldLink RX1 15 "BoxVault$OrderBook" "box" "[I", Cond.methodLink RX1 36 yX1_bindingOn, Cond.instanceMethod yX1_bindingOn, Cond.selects RX1 yX1_bindingOn yX1_bindingOn, Cond.code yX1_bindingOn cX1_bindingOn 4 (some .int), Cond.fieldLink RX1 19 "BoxVault$OrderBook" "court" "[I", Cond.instanceMethod yX1_end, Cond.selects RX1 yX1_end yX1_end, Cond.code yX1_end cX1_end 2 none]
def wsL_lift : List Cond := .codeWith yL_lift cL_lift 4 (some .int) [(0, 16, 19, 52), (0, 16, 22, 15)] :: ((wsL_lift_r1 ++ wsL_lift_r2) ++ wsX20 ++ wsX10 ++ (vx_atS RX2 181 "java/lang/IndexOutOfBoundsException" ["java/lang/RuntimeException", "java/lang/Exception"]).filter goodWord ++ (vx_atS RX2 47 "java/lang/IllegalStateException" ["java/lang/RuntimeException", "java/lang/Exception"]).filter goodWord)
def wsL_enter_r1 : List Cond := [Cond.classLink RL 13 "java/lang/IllegalArgumentException", Cond.classLink RL 15 "java/lang/IllegalStateException", Cond.methodLink RL 54 yX2_enter, Cond.instanceMethod yX2_enter, Cond.selects RX2 yX2_enter yX2_enter, Cond.initialized RX2, Cond.code yX2_enter cX2_enter 6 (some .int), Cond.fieldLink RX2 30 "BoxVault" "refused" "[I", Cond.methodLink RX2 50 yX2_boxAt, Cond.instanceMethod yX2_boxAt, Cond.selects RX2 yX2_boxAt yX2_boxAt, Cond.code yX2_boxAt cX2_boxAt 2 (some (.object "BoxVault$Box")), Cond.fieldLink RX2 11 "BoxVault" "boxes" "[LBoxVault$Box;", Cond.methodLink RX2 38 yX2_requireRange, Cond.static yX2_requireRange, Cond.code yX2_requireRange cX2_requireRange 3 none, Cond.classLink RX2 94 "java/lang/IllegalArgumentException", Cond.initialized "java/lang/IllegalArgumentException", Cond.methodLink RX2 54 yX2_requirePerson, Cond.static yX2_requirePerson, Cond.code yX2_requirePerson cX2_requirePerson 1 none, Cond.methodLink RX2 77 yX2_requireRented, Cond.static yX2_requireRented, Cond.code yX2_requireRented cX2_requireRented 1 none]
def wsL_enter_r2 : List Cond := [Cond.classLink RX2 43 "java/lang/IllegalStateException", Cond.initialized "java/lang/IllegalStateException", Cond.instanceMethod yX0_isRented, Cond.initialized RX0, Cond.selects RX0 yX0_isRented yX0_isRented, Cond.code yX0_isRented cX0_isRented 1 (some .boolean), Cond.fieldLink RX0 11 "BoxVault$Box" "state" "I", Cond.methodLink RX2 81 yX2_rightOf, Cond.instanceMethod yX2_rightOf, Cond.selects RX2 yX2_rightOf yX2_rightOf, Cond.code yX2_rightOf cX2_rightOf 5 (some .int), Cond.fieldLink RX2 18 "BoxVault" "orders" "LBoxVault$OrderBook;", Cond.methodLink RX2 64 yX2_isAlive, Cond.instanceMethod yX2_isAlive, Cond.selects RX2 yX2_isAlive yX2_isAlive, Cond.code yX2_isAlive cX2_isAlive 2 (some .boolean), Cond.fieldLink RX2 22 "BoxVault" "dead" "[Z", Cond.methodLink RX2 201 yX2_isPerson, Cond.static yX2_isPerson, Cond.code yX2_isPerson cX2_isPerson 1 (some .boolean), Cond.instanceMethod yX1_bindingOn, Cond.initialized RX1, Cond.selects RX1 yX1_bindingOn yX1_bindingOn, Cond.code yX1_bindingOn cX1_bindingOn 4 (some .int)]
def wsL_enter_r3 : List Cond := [Cond.fieldLink RX1 9 "BoxVault$OrderBook" "count" "I", Cond.fieldLink RX1 28 "BoxVault$OrderBook" "holds" "[Z", Cond.fieldLink RX1 15 "BoxVault$OrderBook" "box" "[I", Cond.fieldLink RX1 19 "BoxVault$OrderBook" "court" "[I", Cond.methodLink RX2 204 yX2_orderAllows, Cond.instanceMethod yX2_orderAllows, Cond.selects RX2 yX2_orderAllows yX2_orderAllows, Cond.code yX2_orderAllows cX2_orderAllows 4 (some .boolean), Cond.instanceMethod yX1_kindOf, Cond.selects RX1 yX1_kindOf yX1_kindOf, Cond.code yX1_kindOf cX1_kindOf 2 (some .int), Cond.fieldLink RX1 22 "BoxVault$OrderBook" "kind" "[I", Cond.methodLink RX1 32 yX1_has, Cond.instanceMethod yX1_has, Cond.selects RX1 yX1_has yX1_has, Cond.code yX1_has cX1_has 2 (some .boolean), Cond.instanceMethod yX1_personOf, Cond.selects RX1 yX1_personOf yX1_personOf, Cond.code yX1_personOf cX1_personOf 2 (some .int), Cond.fieldLink RX1 25 "BoxVault$OrderBook" "person" "[I", Cond.methodLink RX2 213 yX2_isHeirOfDead, Cond.instanceMethod yX2_isHeirOfDead, Cond.selects RX2 yX2_isHeirOfDead yX2_isHeirOfDead, Cond.code yX2_isHeirOfDead cX2_isHeirOfDead 3 (some .boolean)]
def wsL_enter_r4 : List Cond := [Cond.methodLink RX2 153 yX2_isHeir, Cond.instanceMethod yX2_isHeir, Cond.selects RX2 yX2_isHeir yX2_isHeir, Cond.code yX2_isHeir cX2_isHeir 3 (some .boolean), Cond.fieldLink RX2 26 "BoxVault" "heirs" "[I", Cond.methodLink RX2 207 yX2_holderAllows, Cond.instanceMethod yX2_holderAllows, Cond.selects RX2 yX2_holderAllows yX2_holderAllows, Cond.code yX2_holderAllows cX2_holderAllows 3 (some .boolean), Cond.fieldLink RX2 33 "BoxVault" "today" "I", Cond.instanceMethod yX0_noticesOn, Cond.selects RX0 yX0_noticesOn yX0_noticesOn, Cond.code yX0_noticesOn cX0_noticesOn 2 (some .int), Cond.methodLink RX0 57 Lib.Math.min.name, Cond.static Lib.Math.min.name, Cond.initialized "java/lang/Math", Cond.code Lib.Math.min.name Lib.Math.min.code 2 (some .int), Cond.methodLink RX0 44 yX0_overdueOn, Cond.instanceMethod yX0_overdueOn, Cond.selects RX0 yX0_overdueOn yX0_overdueOn, Cond.code yX0_overdueOn cX0_overdueOn 2 (some .int), Cond.fieldLink RX0 18 "BoxVault$Box" "paidUpTo" "I", Cond.methodLink RX0 51 Lib.Math.max.name, Cond.static Lib.Math.max.name]
def wsL_enter_r5 : List Cond := [Cond.code Lib.Math.max.name Lib.Math.max.code 2 (some .int), Cond.instanceMethod yX0_hasProxyOn, Cond.selects RX0 yX0_hasProxyOn yX0_hasProxyOn, Cond.code yX0_hasProxyOn cX0_hasProxyOn 4 (some .boolean), Cond.fieldLink RX0 31 "BoxVault$Box" "proxyCount" "I", Cond.fieldLink RX0 34 "BoxVault$Box" "proxyPerson" "[I", Cond.fieldLink RX0 38 "BoxVault$Box" "proxyFirst" "[I", Cond.fieldLink RX0 41 "BoxVault$Box" "proxyLast" "[I"]
def wsL_enter : List Cond := .codeWith yL_enter cL_enter 6 (some .int) [(0, 12, 15, 13), (0, 12, 19, 15)] :: ((wsL_enter_r1 ++ (wsL_enter_r2 ++ (wsL_enter_r3 ++ (wsL_enter_r4 ++ wsL_enter_r5)))) ++ wsX20 ++ wsX00 ++ wsX10 ++ (vx_atS RX2 98 "java/lang/IllegalArgumentException" ["java/lang/RuntimeException", "java/lang/Exception"]).filter goodWord ++ (vx_atS RX2 47 "java/lang/IllegalStateException" ["java/lang/RuntimeException", "java/lang/Exception"]).filter goodWord)
def wsL_may_r1 : List Cond := [Cond.classLink RL 13 "java/lang/IllegalArgumentException", Cond.methodLink RL 57 yX2_may, Cond.instanceMethod yX2_may, Cond.selects RX2 yX2_may yX2_may, Cond.initialized RX2, Cond.code yX2_may cX2_may 4 (some .int), Cond.methodLink RX2 50 yX2_boxAt, Cond.instanceMethod yX2_boxAt, Cond.selects RX2 yX2_boxAt yX2_boxAt, Cond.code yX2_boxAt cX2_boxAt 2 (some (.object "BoxVault$Box")), Cond.fieldLink RX2 11 "BoxVault" "boxes" "[LBoxVault$Box;", Cond.methodLink RX2 38 yX2_requireRange, Cond.static yX2_requireRange, Cond.code yX2_requireRange cX2_requireRange 3 none, Cond.classLink RX2 94 "java/lang/IllegalArgumentException", Cond.initialized "java/lang/IllegalArgumentException", Cond.methodLink RX2 54 yX2_requirePerson, Cond.static yX2_requirePerson, Cond.code yX2_requirePerson cX2_requirePerson 1 none, Cond.methodLink RX2 81 yX2_rightOf, Cond.instanceMethod yX2_rightOf, Cond.selects RX2 yX2_rightOf yX2_rightOf, Cond.code yX2_rightOf cX2_rightOf 5 (some .int), Cond.fieldLink RX2 18 "BoxVault" "orders" "LBoxVault$OrderBook;"]
def wsL_may_r2 : List Cond := [Cond.instanceMethod yX0_isRented, Cond.initialized RX0, Cond.selects RX0 yX0_isRented yX0_isRented, Cond.code yX0_isRented cX0_isRented 1 (some .boolean), Cond.fieldLink RX0 11 "BoxVault$Box" "state" "I", Cond.methodLink RX2 64 yX2_isAlive, Cond.instanceMethod yX2_isAlive, Cond.selects RX2 yX2_isAlive yX2_isAlive, Cond.code yX2_isAlive cX2_isAlive 2 (some .boolean), Cond.fieldLink RX2 22 "BoxVault" "dead" "[Z", Cond.methodLink RX2 201 yX2_isPerson, Cond.static yX2_isPerson, Cond.code yX2_isPerson cX2_isPerson 1 (some .boolean), Cond.instanceMethod yX1_bindingOn, Cond.initialized RX1, Cond.selects RX1 yX1_bindingOn yX1_bindingOn, Cond.code yX1_bindingOn cX1_bindingOn 4 (some .int), Cond.fieldLink RX1 9 "BoxVault$OrderBook" "count" "I", Cond.fieldLink RX1 28 "BoxVault$OrderBook" "holds" "[Z", Cond.fieldLink RX1 15 "BoxVault$OrderBook" "box" "[I", Cond.fieldLink RX1 19 "BoxVault$OrderBook" "court" "[I", Cond.methodLink RX2 204 yX2_orderAllows, Cond.instanceMethod yX2_orderAllows, Cond.selects RX2 yX2_orderAllows yX2_orderAllows]
def wsL_may_r3 : List Cond := [Cond.code yX2_orderAllows cX2_orderAllows 4 (some .boolean), Cond.instanceMethod yX1_kindOf, Cond.selects RX1 yX1_kindOf yX1_kindOf, Cond.code yX1_kindOf cX1_kindOf 2 (some .int), Cond.fieldLink RX1 22 "BoxVault$OrderBook" "kind" "[I", Cond.methodLink RX1 32 yX1_has, Cond.instanceMethod yX1_has, Cond.selects RX1 yX1_has yX1_has, Cond.code yX1_has cX1_has 2 (some .boolean), Cond.instanceMethod yX1_personOf, Cond.selects RX1 yX1_personOf yX1_personOf, Cond.code yX1_personOf cX1_personOf 2 (some .int), Cond.fieldLink RX1 25 "BoxVault$OrderBook" "person" "[I", Cond.methodLink RX2 213 yX2_isHeirOfDead, Cond.instanceMethod yX2_isHeirOfDead, Cond.selects RX2 yX2_isHeirOfDead yX2_isHeirOfDead, Cond.code yX2_isHeirOfDead cX2_isHeirOfDead 3 (some .boolean), Cond.methodLink RX2 153 yX2_isHeir, Cond.instanceMethod yX2_isHeir, Cond.selects RX2 yX2_isHeir yX2_isHeir, Cond.code yX2_isHeir cX2_isHeir 3 (some .boolean), Cond.fieldLink RX2 26 "BoxVault" "heirs" "[I", Cond.methodLink RX2 207 yX2_holderAllows, Cond.instanceMethod yX2_holderAllows]
def wsL_may_r4 : List Cond := [Cond.selects RX2 yX2_holderAllows yX2_holderAllows, Cond.code yX2_holderAllows cX2_holderAllows 3 (some .boolean), Cond.fieldLink RX2 33 "BoxVault" "today" "I", Cond.instanceMethod yX0_noticesOn, Cond.selects RX0 yX0_noticesOn yX0_noticesOn, Cond.code yX0_noticesOn cX0_noticesOn 2 (some .int), Cond.methodLink RX0 57 Lib.Math.min.name, Cond.static Lib.Math.min.name, Cond.initialized "java/lang/Math", Cond.code Lib.Math.min.name Lib.Math.min.code 2 (some .int), Cond.methodLink RX0 44 yX0_overdueOn, Cond.instanceMethod yX0_overdueOn, Cond.selects RX0 yX0_overdueOn yX0_overdueOn, Cond.code yX0_overdueOn cX0_overdueOn 2 (some .int), Cond.fieldLink RX0 18 "BoxVault$Box" "paidUpTo" "I", Cond.methodLink RX0 51 Lib.Math.max.name, Cond.static Lib.Math.max.name, Cond.code Lib.Math.max.name Lib.Math.max.code 2 (some .int), Cond.instanceMethod yX0_hasProxyOn, Cond.selects RX0 yX0_hasProxyOn yX0_hasProxyOn, Cond.code yX0_hasProxyOn cX0_hasProxyOn 4 (some .boolean), Cond.fieldLink RX0 31 "BoxVault$Box" "proxyCount" "I", Cond.fieldLink RX0 34 "BoxVault$Box" "proxyPerson" "[I", Cond.fieldLink RX0 38 "BoxVault$Box" "proxyFirst" "[I"]
def wsL_may_r5 : List Cond := [Cond.fieldLink RX0 41 "BoxVault$Box" "proxyLast" "[I"]
def wsL_may : List Cond := .codeWith yL_may cL_may 5 (some .int) [(0, 10, 13, 13)] :: ((wsL_may_r1 ++ (wsL_may_r2 ++ (wsL_may_r3 ++ (wsL_may_r4 ++ wsL_may_r5)))) ++ wsX20 ++ wsX00 ++ wsX10 ++ (vx_atS RX2 98 "java/lang/IllegalArgumentException" ["java/lang/RuntimeException", "java/lang/Exception"]).filter goodWord)
def wsL_mayAll_r1 : List Cond := [Cond.classLink RL 13 "java/lang/IllegalArgumentException", Cond.methodLink RL 60 yX2_mayAll, Cond.instanceMethod yX2_mayAll, Cond.selects RX2 yX2_mayAll yX2_mayAll, Cond.initialized RX2, Cond.code yX2_mayAll cX2_mayAll 5 (some .int), Cond.methodLink RX2 50 yX2_boxAt, Cond.instanceMethod yX2_boxAt, Cond.selects RX2 yX2_boxAt yX2_boxAt, Cond.code yX2_boxAt cX2_boxAt 2 (some (.object "BoxVault$Box")), Cond.fieldLink RX2 11 "BoxVault" "boxes" "[LBoxVault$Box;", Cond.methodLink RX2 38 yX2_requireRange, Cond.static yX2_requireRange, Cond.code yX2_requireRange cX2_requireRange 3 none, Cond.classLink RX2 94 "java/lang/IllegalArgumentException", Cond.initialized "java/lang/IllegalArgumentException", Cond.methodLink RX2 81 yX2_rightOf, Cond.instanceMethod yX2_rightOf, Cond.selects RX2 yX2_rightOf yX2_rightOf, Cond.code yX2_rightOf cX2_rightOf 5 (some .int), Cond.fieldLink RX2 18 "BoxVault" "orders" "LBoxVault$OrderBook;", Cond.instanceMethod yX0_isRented, Cond.initialized RX0, Cond.selects RX0 yX0_isRented yX0_isRented]
def wsL_mayAll_r2 : List Cond := [Cond.code yX0_isRented cX0_isRented 1 (some .boolean), Cond.fieldLink RX0 11 "BoxVault$Box" "state" "I", Cond.methodLink RX2 64 yX2_isAlive, Cond.instanceMethod yX2_isAlive, Cond.selects RX2 yX2_isAlive yX2_isAlive, Cond.code yX2_isAlive cX2_isAlive 2 (some .boolean), Cond.fieldLink RX2 22 "BoxVault" "dead" "[Z", Cond.methodLink RX2 201 yX2_isPerson, Cond.static yX2_isPerson, Cond.code yX2_isPerson cX2_isPerson 1 (some .boolean), Cond.instanceMethod yX1_bindingOn, Cond.initialized RX1, Cond.selects RX1 yX1_bindingOn yX1_bindingOn, Cond.code yX1_bindingOn cX1_bindingOn 4 (some .int), Cond.fieldLink RX1 9 "BoxVault$OrderBook" "count" "I", Cond.fieldLink RX1 28 "BoxVault$OrderBook" "holds" "[Z", Cond.fieldLink RX1 15 "BoxVault$OrderBook" "box" "[I", Cond.fieldLink RX1 19 "BoxVault$OrderBook" "court" "[I", Cond.methodLink RX2 204 yX2_orderAllows, Cond.instanceMethod yX2_orderAllows, Cond.selects RX2 yX2_orderAllows yX2_orderAllows, Cond.code yX2_orderAllows cX2_orderAllows 4 (some .boolean), Cond.instanceMethod yX1_kindOf, Cond.selects RX1 yX1_kindOf yX1_kindOf]
def wsL_mayAll_r3 : List Cond := [Cond.code yX1_kindOf cX1_kindOf 2 (some .int), Cond.fieldLink RX1 22 "BoxVault$OrderBook" "kind" "[I", Cond.methodLink RX1 32 yX1_has, Cond.instanceMethod yX1_has, Cond.selects RX1 yX1_has yX1_has, Cond.code yX1_has cX1_has 2 (some .boolean), Cond.instanceMethod yX1_personOf, Cond.selects RX1 yX1_personOf yX1_personOf, Cond.code yX1_personOf cX1_personOf 2 (some .int), Cond.fieldLink RX1 25 "BoxVault$OrderBook" "person" "[I", Cond.methodLink RX2 213 yX2_isHeirOfDead, Cond.instanceMethod yX2_isHeirOfDead, Cond.selects RX2 yX2_isHeirOfDead yX2_isHeirOfDead, Cond.code yX2_isHeirOfDead cX2_isHeirOfDead 3 (some .boolean), Cond.methodLink RX2 153 yX2_isHeir, Cond.instanceMethod yX2_isHeir, Cond.selects RX2 yX2_isHeir yX2_isHeir, Cond.code yX2_isHeir cX2_isHeir 3 (some .boolean), Cond.fieldLink RX2 26 "BoxVault" "heirs" "[I", Cond.methodLink RX2 207 yX2_holderAllows, Cond.instanceMethod yX2_holderAllows, Cond.selects RX2 yX2_holderAllows yX2_holderAllows, Cond.code yX2_holderAllows cX2_holderAllows 3 (some .boolean), Cond.fieldLink RX2 33 "BoxVault" "today" "I"]
def wsL_mayAll_r4 : List Cond := [Cond.instanceMethod yX0_noticesOn, Cond.selects RX0 yX0_noticesOn yX0_noticesOn, Cond.code yX0_noticesOn cX0_noticesOn 2 (some .int), Cond.methodLink RX0 57 Lib.Math.min.name, Cond.static Lib.Math.min.name, Cond.initialized "java/lang/Math", Cond.code Lib.Math.min.name Lib.Math.min.code 2 (some .int), Cond.methodLink RX0 44 yX0_overdueOn, Cond.instanceMethod yX0_overdueOn, Cond.selects RX0 yX0_overdueOn yX0_overdueOn, Cond.code yX0_overdueOn cX0_overdueOn 2 (some .int), Cond.fieldLink RX0 18 "BoxVault$Box" "paidUpTo" "I", Cond.methodLink RX0 51 Lib.Math.max.name, Cond.static Lib.Math.max.name, Cond.code Lib.Math.max.name Lib.Math.max.code 2 (some .int), Cond.instanceMethod yX0_hasProxyOn, Cond.selects RX0 yX0_hasProxyOn yX0_hasProxyOn, Cond.code yX0_hasProxyOn cX0_hasProxyOn 4 (some .boolean), Cond.fieldLink RX0 31 "BoxVault$Box" "proxyCount" "I", Cond.fieldLink RX0 34 "BoxVault$Box" "proxyPerson" "[I", Cond.fieldLink RX0 38 "BoxVault$Box" "proxyFirst" "[I", Cond.fieldLink RX0 41 "BoxVault$Box" "proxyLast" "[I"]
def wsL_mayAll : List Cond := .codeWith yL_mayAll cL_mayAll 4 (some .int) [(0, 9, 12, 13)] :: ((wsL_mayAll_r1 ++ (wsL_mayAll_r2 ++ (wsL_mayAll_r3 ++ wsL_mayAll_r4))) ++ wsX20 ++ wsX00 ++ wsX10 ++ (vx_atS RX2 98 "java/lang/IllegalArgumentException" ["java/lang/RuntimeException", "java/lang/Exception"]).filter goodWord)
def wsL_holder : List Cond := .codeWith yL_holder cL_holder 4 (some .int) [(0, 9, 12, 13)] :: ([.classLink RL 13 "java/lang/IllegalArgumentException", .methodLink RL 63 yX2_holder, .instanceMethod yX2_holder, .selects RX2 yX2_holder yX2_holder, .initialized RX2, .code yX2_holder cX2_holder 2 (some .int), .methodLink RX2 50 yX2_boxAt, .instanceMethod yX2_boxAt, .selects RX2 yX2_boxAt yX2_boxAt, .code yX2_boxAt cX2_boxAt 2 (some (.object "BoxVault$Box")), .fieldLink RX2 11 "BoxVault" "boxes" "[LBoxVault$Box;", .methodLink RX2 38 yX2_requireRange, .static yX2_requireRange, .code yX2_requireRange cX2_requireRange 3 none, .classLink RX2 94 "java/lang/IllegalArgumentException", .initialized "java/lang/IllegalArgumentException"] ++ wsX00 ++ wsX20 ++ (vx_atS RX2 98 "java/lang/IllegalArgumentException" ["java/lang/RuntimeException", "java/lang/Exception"]).filter goodWord)
def wsL_notices_r1 : List Cond := [Cond.classLink RL 13 "java/lang/IllegalArgumentException", Cond.methodLink RL 66 yX2_notices, Cond.instanceMethod yX2_notices, Cond.selects RX2 yX2_notices yX2_notices, Cond.initialized RX2, Cond.code yX2_notices cX2_notices 3 (some .int), Cond.fieldLink RX2 33 "BoxVault" "today" "I", Cond.methodLink RX2 50 yX2_boxAt, Cond.instanceMethod yX2_boxAt, Cond.selects RX2 yX2_boxAt yX2_boxAt, Cond.code yX2_boxAt cX2_boxAt 2 (some (.object "BoxVault$Box")), Cond.fieldLink RX2 11 "BoxVault" "boxes" "[LBoxVault$Box;", Cond.methodLink RX2 38 yX2_requireRange, Cond.static yX2_requireRange, Cond.code yX2_requireRange cX2_requireRange 3 none, Cond.classLink RX2 94 "java/lang/IllegalArgumentException", Cond.initialized "java/lang/IllegalArgumentException", Cond.instanceMethod yX0_isRented, Cond.initialized RX0, Cond.selects RX0 yX0_isRented yX0_isRented, Cond.code yX0_isRented cX0_isRented 1 (some .boolean), Cond.fieldLink RX0 11 "BoxVault$Box" "state" "I", Cond.instanceMethod yX0_noticesOn, Cond.selects RX0 yX0_noticesOn yX0_noticesOn]
def wsL_notices_r2 : List Cond := [Cond.code yX0_noticesOn cX0_noticesOn 2 (some .int), Cond.methodLink RX0 57 Lib.Math.min.name, Cond.static Lib.Math.min.name, Cond.initialized "java/lang/Math", Cond.code Lib.Math.min.name Lib.Math.min.code 2 (some .int), Cond.methodLink RX0 44 yX0_overdueOn, Cond.instanceMethod yX0_overdueOn, Cond.selects RX0 yX0_overdueOn yX0_overdueOn, Cond.code yX0_overdueOn cX0_overdueOn 2 (some .int), Cond.fieldLink RX0 18 "BoxVault$Box" "paidUpTo" "I", Cond.methodLink RX0 51 Lib.Math.max.name, Cond.static Lib.Math.max.name, Cond.code Lib.Math.max.name Lib.Math.max.code 2 (some .int)]
def wsL_notices : List Cond := .codeWith yL_notices cL_notices 4 (some .int) [(0, 9, 12, 13)] :: ((wsL_notices_r1 ++ wsL_notices_r2) ++ wsX20 ++ wsX00 ++ (vx_atS RX2 98 "java/lang/IllegalArgumentException" ["java/lang/RuntimeException", "java/lang/Exception"]).filter goodWord)
def wsL_refusals : List Cond := .codeWith yL_refusals cL_refusals 4 (some .int) [(0, 9, 12, 13)] :: ([.classLink RL 13 "java/lang/IllegalArgumentException", .methodLink RL 69 yX2_refusals, .instanceMethod yX2_refusals, .selects RX2 yX2_refusals yX2_refusals, .initialized RX2, .code yX2_refusals cX2_refusals 2 (some .int), .fieldLink RX2 30 "BoxVault" "refused" "[I", .methodLink RX2 54 yX2_requirePerson, .static yX2_requirePerson, .code yX2_requirePerson cX2_requirePerson 1 none, .methodLink RX2 38 yX2_requireRange, .static yX2_requireRange, .code yX2_requireRange cX2_requireRange 3 none, .classLink RX2 94 "java/lang/IllegalArgumentException", .initialized "java/lang/IllegalArgumentException"] ++ wsX20 ++ (vx_atS RX2 98 "java/lang/IllegalArgumentException" ["java/lang/RuntimeException", "java/lang/Exception"]).filter goodWord)
def wsL_binding : List Cond := .codeWith yL_binding cL_binding 4 (some .int) [(0, 9, 12, 13)] :: ([.classLink RL 13 "java/lang/IllegalArgumentException", .methodLink RL 72 yX2_binding, .instanceMethod yX2_binding, .selects RX2 yX2_binding yX2_binding, .initialized RX2, .code yX2_binding cX2_binding 2 (some .int), .fieldLink RX2 18 "BoxVault" "orders" "LBoxVault$OrderBook;", .methodLink RX2 38 yX2_requireRange, .static yX2_requireRange, .code yX2_requireRange cX2_requireRange 3 none, .classLink RX2 94 "java/lang/IllegalArgumentException", .initialized "java/lang/IllegalArgumentException", .instanceMethod yX1_bindingOn, .initialized RX1, .selects RX1 yX1_bindingOn yX1_bindingOn, .code yX1_bindingOn cX1_bindingOn 4 (some .int), .fieldLink RX1 9 "BoxVault$OrderBook" "count" "I", .fieldLink RX1 28 "BoxVault$OrderBook" "holds" "[Z", .fieldLink RX1 15 "BoxVault$OrderBook" "box" "[I", .fieldLink RX1 19 "BoxVault$OrderBook" "court" "[I"] ++ wsX20 ++ wsX10 ++ (vx_atS RX2 98 "java/lang/IllegalArgumentException" ["java/lang/RuntimeException", "java/lang/Exception"]).filter goodWord)
def wsL_law0_r1 : List Cond := [Cond.classLink RL 8 RX2, Cond.instantiable RX2 6, Cond.initialized RX2, Cond.classLink RL 76 RX3, Cond.instantiable RX3 21, Cond.initialized RX3, Cond.arrayClass .long, Cond.methodLink RL 75 yX2_init, Cond.instanceMethod yX2_init, Cond.code yX2_init cX2_init 2 none, Cond.methodLink RX2 1 objectInit, Cond.instanceMethod objectInit, Cond.code objectInit ⟨#[0xb1]⟩ 1 none, Cond.classLink RX2 9 RX0, Cond.fieldLink RX2 11 "BoxVault" "boxes" "[LBoxVault$Box;", Cond.classLink RX2 15 RX1, Cond.instantiable RX1 6, Cond.initialized RX1, Cond.fieldLink RX2 18 "BoxVault" "orders" "LBoxVault$OrderBook;", Cond.arrayClass .boolean, Cond.fieldLink RX2 22 "BoxVault" "dead" "[Z", Cond.arrayClass .int, Cond.fieldLink RX2 26 "BoxVault" "heirs" "[I", Cond.fieldLink RX2 30 "BoxVault" "refused" "[I"]
def wsL_law0_r2 : List Cond := [Cond.fieldLink RX2 33 "BoxVault" "today" "I", Cond.instantiable RX0 10, Cond.initialized RX0, Cond.instanceMethod yX1_init, Cond.code yX1_init cX1_init 1 none, Cond.methodLink RX1 3 objectInit, Cond.fieldLink RX1 9 "BoxVault$OrderBook" "count" "I", Cond.fieldLink RX1 15 "BoxVault$OrderBook" "box" "[I", Cond.fieldLink RX1 19 "BoxVault$OrderBook" "court" "[I", Cond.fieldLink RX1 22 "BoxVault$OrderBook" "kind" "[I", Cond.fieldLink RX1 25 "BoxVault$OrderBook" "person" "[I", Cond.fieldLink RX1 28 "BoxVault$OrderBook" "holds" "[Z", Cond.instanceMethod yX0_init, Cond.code yX0_init cX0_init 1 none, Cond.methodLink RX0 3 objectInit, Cond.fieldLink RX0 11 "BoxVault$Box" "state" "I", Cond.fieldLink RX0 15 "BoxVault$Box" "holder" "I", Cond.fieldLink RX0 18 "BoxVault$Box" "paidUpTo" "I", Cond.fieldLink RX0 21 "BoxVault$Box" "unpaidDays" "I", Cond.fieldLink RX0 24 "BoxVault$Box" "entries" "I", Cond.fieldLink RX0 27 "BoxVault$Box" "willSought" "Z", Cond.fieldLink RX0 31 "BoxVault$Box" "proxyCount" "I", Cond.fieldLink RX0 34 "BoxVault$Box" "proxyPerson" "[I", Cond.fieldLink RX0 38 "BoxVault$Box" "proxyFirst" "[I"]
def wsL_law0_r3 : List Cond := [Cond.fieldLink RX0 41 "BoxVault$Box" "proxyLast" "[I", Cond.methodLink RL 78 yX3_init, Cond.instanceMethod yX3_init, Cond.code yX3_init cX3_init 1 none, Cond.methodLink RX3 1 objectInit, Cond.fieldLink RX3 7 "BoxVaultModel" "dead" "[Z", Cond.fieldLink RX3 13 "BoxVaultModel" "heirs" "[I", Cond.fieldLink RX3 17 "BoxVaultModel" "refusals" "[I", Cond.fieldLink RX3 20 "BoxVaultModel" "state" "[I", Cond.fieldLink RX3 23 "BoxVaultModel" "holder" "[I", Cond.fieldLink RX3 26 "BoxVaultModel" "paid" "[I", Cond.fieldLink RX3 29 "BoxVaultModel" "entries" "[I", Cond.fieldLink RX3 32 "BoxVaultModel" "looked" "[Z", Cond.fieldLink RX3 35 "BoxVaultModel" "owed" "[I", Cond.fieldLink RX3 38 "BoxVaultModel" "proxies" "[I", Cond.fieldLink RX3 41 "BoxVaultModel" "proxy" "[I", Cond.fieldLink RX3 44 "BoxVaultModel" "from" "[I", Cond.fieldLink RX3 47 "BoxVaultModel" "to" "[I", Cond.fieldLink RX3 50 "BoxVaultModel" "at" "[I", Cond.fieldLink RX3 53 "BoxVaultModel" "court" "[I", Cond.fieldLink RX3 56 "BoxVaultModel" "kind" "[I", Cond.fieldLink RX3 59 "BoxVaultModel" "alone" "[I", Cond.fieldLink RX3 62 "BoxVaultModel" "holds" "[Z", Cond.methodLink RL 79 yL_pass]
def wsL_law0_r4 : List Cond := [Cond.static yL_pass, Cond.initialized RL, Cond.codeWith yL_pass cL_pass 4 (some .int) [(0, 9, 12, 13), (0, 9, 15, 15)], Cond.classLink RL 13 "java/lang/IllegalArgumentException", Cond.classLink RL 15 "java/lang/IllegalStateException", Cond.methodLink RL 7 yX2_pass, Cond.instanceMethod yX2_pass, Cond.selects RX2 yX2_pass yX2_pass, Cond.code yX2_pass cX2_pass 2 (some .int), Cond.classLink RX2 43 "java/lang/IllegalStateException", Cond.initialized "java/lang/IllegalStateException", Cond.constant RX2 42 (99999), Cond.methodLink RX2 38 yX2_requireRange, Cond.static yX2_requireRange, Cond.code yX2_requireRange cX2_requireRange 3 none, Cond.classLink RX2 94 "java/lang/IllegalArgumentException", Cond.initialized "java/lang/IllegalArgumentException", Cond.methodLink RL 84 yX3_pass, Cond.instanceMethod yX3_pass, Cond.selects RX3 yX3_pass yX3_pass, Cond.code yX3_pass cX3_pass 2 (some .int), Cond.fieldLink RX3 65 "BoxVaultModel" "thrown" "I", Cond.fieldLink RX3 73 "BoxVaultModel" "now" "I", Cond.constant RX3 106 (99999)]
def wsL_law0_r5 : List Cond := [Cond.methodLink RX3 69 yX3_in, Cond.static yX3_in, Cond.code yX3_in cX3_in 3 (some .boolean), Cond.methodLink RX3 103 yX3_fails, Cond.instanceMethod yX3_fails, Cond.selects RX3 yX3_fails yX3_fails, Cond.code yX3_fails cX3_fails 2 (some .int), Cond.methodLink RL 85 yX3_thrown, Cond.instanceMethod yX3_thrown, Cond.selects RX3 yX3_thrown yX3_thrown, Cond.code yX3_thrown cX3_thrown 1 (some .int), Cond.methodLink RL 89 yL_rent, Cond.static yL_rent, Cond.codeWith yL_rent cL_rent 6 (some .int) [(0, 12, 15, 13), (0, 12, 19, 15)], Cond.methodLink RL 17 yX2_rent, Cond.instanceMethod yX2_rent, Cond.selects RX2 yX2_rent yX2_rent, Cond.code yX2_rent cX2_rent 5 (some .int), Cond.methodLink RX2 50 yX2_boxAt, Cond.instanceMethod yX2_boxAt, Cond.selects RX2 yX2_boxAt yX2_boxAt, Cond.code yX2_boxAt cX2_boxAt 2 (some (.object "BoxVault$Box")), Cond.methodLink RX2 54 yX2_requirePerson, Cond.static yX2_requirePerson]
def wsL_law0_r6 : List Cond := [Cond.code yX2_requirePerson cX2_requirePerson 1 none, Cond.instanceMethod yX0_isFree, Cond.selects RX0 yX0_isFree yX0_isFree, Cond.code yX0_isFree cX0_isFree 1 (some .boolean), Cond.methodLink RX2 64 yX2_isAlive, Cond.instanceMethod yX2_isAlive, Cond.selects RX2 yX2_isAlive yX2_isAlive, Cond.code yX2_isAlive cX2_isAlive 2 (some .boolean), Cond.methodLink RX2 201 yX2_isPerson, Cond.static yX2_isPerson, Cond.code yX2_isPerson cX2_isPerson 1 (some .boolean), Cond.instanceMethod yX0_startRent, Cond.selects RX0 yX0_startRent yX0_startRent, Cond.code yX0_startRent cX0_startRent 3 none, Cond.methodLink RL 92 yX3_rent, Cond.instanceMethod yX3_rent, Cond.selects RX3 yX3_rent yX3_rent, Cond.code yX3_rent cX3_rent 4 (some .int), Cond.methodLink RX3 107 yX3_isBox, Cond.static yX3_isBox, Cond.code yX3_isBox cX3_isBox 1 (some .boolean), Cond.methodLink RX3 110 yX3_isPerson, Cond.static yX3_isPerson, Cond.code yX3_isPerson cX3_isPerson 1 (some .boolean)]
def wsL_law0_r7 : List Cond := [Cond.methodLink RL 93 yL_extend, Cond.static yL_extend, Cond.codeWith yL_extend cL_extend 5 (some .int) [(0, 10, 13, 13), (0, 10, 17, 15)], Cond.methodLink RL 21 yX2_extend, Cond.instanceMethod yX2_extend, Cond.selects RX2 yX2_extend yX2_extend, Cond.code yX2_extend cX2_extend 4 (some .int), Cond.methodLink RX2 77 yX2_requireRented, Cond.static yX2_requireRented, Cond.code yX2_requireRented cX2_requireRented 1 none, Cond.instanceMethod yX0_isRented, Cond.selects RX0 yX0_isRented yX0_isRented, Cond.code yX0_isRented cX0_isRented 1 (some .boolean), Cond.methodLink RL 96 yX3_extend, Cond.instanceMethod yX3_extend, Cond.selects RX3 yX3_extend yX3_extend, Cond.code yX3_extend cX3_extend 3 (some .int), Cond.methodLink RX3 80 yX3_isRented, Cond.instanceMethod yX3_isRented, Cond.selects RX3 yX3_isRented yX3_isRented, Cond.code yX3_isRented cX3_isRented 2 (some .boolean), Cond.methodLink RL 97 yL_giveBack, Cond.static yL_giveBack, Cond.codeWith yL_giveBack cL_giveBack 5 (some .int) [(0, 10, 13, 13), (0, 10, 17, 15)]]
def wsL_law0_r8 : List Cond := [Cond.methodLink RL 25 yX2_giveBack, Cond.instanceMethod yX2_giveBack, Cond.selects RX2 yX2_giveBack yX2_giveBack, Cond.code yX2_giveBack cX2_giveBack 5 (some .int), Cond.methodLink RX2 81 yX2_rightOf, Cond.instanceMethod yX2_rightOf, Cond.selects RX2 yX2_rightOf yX2_rightOf, Cond.code yX2_rightOf cX2_rightOf 5 (some .int), Cond.instanceMethod yX1_bindingOn, Cond.selects RX1 yX1_bindingOn yX1_bindingOn, Cond.code yX1_bindingOn cX1_bindingOn 4 (some .int), Cond.methodLink RX2 204 yX2_orderAllows, Cond.instanceMethod yX2_orderAllows, Cond.selects RX2 yX2_orderAllows yX2_orderAllows, Cond.code yX2_orderAllows cX2_orderAllows 4 (some .boolean), Cond.instanceMethod yX1_kindOf, Cond.selects RX1 yX1_kindOf yX1_kindOf, Cond.code yX1_kindOf cX1_kindOf 2 (some .int), Cond.methodLink RX1 32 yX1_has, Cond.instanceMethod yX1_has, Cond.selects RX1 yX1_has yX1_has, Cond.code yX1_has cX1_has 2 (some .boolean), Cond.instanceMethod yX1_personOf, Cond.selects RX1 yX1_personOf yX1_personOf]
def wsL_law0_r9 : List Cond := [Cond.code yX1_personOf cX1_personOf 2 (some .int), Cond.methodLink RX2 213 yX2_isHeirOfDead, Cond.instanceMethod yX2_isHeirOfDead, Cond.selects RX2 yX2_isHeirOfDead yX2_isHeirOfDead, Cond.code yX2_isHeirOfDead cX2_isHeirOfDead 3 (some .boolean), Cond.methodLink RX2 153 yX2_isHeir, Cond.instanceMethod yX2_isHeir, Cond.selects RX2 yX2_isHeir yX2_isHeir, Cond.code yX2_isHeir cX2_isHeir 3 (some .boolean), Cond.methodLink RX2 207 yX2_holderAllows, Cond.instanceMethod yX2_holderAllows, Cond.selects RX2 yX2_holderAllows yX2_holderAllows, Cond.code yX2_holderAllows cX2_holderAllows 3 (some .boolean), Cond.instanceMethod yX0_noticesOn, Cond.selects RX0 yX0_noticesOn yX0_noticesOn, Cond.code yX0_noticesOn cX0_noticesOn 2 (some .int), Cond.methodLink RX0 57 Lib.Math.min.name, Cond.static Lib.Math.min.name, Cond.initialized "java/lang/Math", Cond.code Lib.Math.min.name Lib.Math.min.code 2 (some .int), Cond.methodLink RX0 44 yX0_overdueOn, Cond.instanceMethod yX0_overdueOn, Cond.selects RX0 yX0_overdueOn yX0_overdueOn, Cond.code yX0_overdueOn cX0_overdueOn 2 (some .int)]
def wsL_law0_r10 : List Cond := [Cond.methodLink RX0 51 Lib.Math.max.name, Cond.static Lib.Math.max.name, Cond.code Lib.Math.max.name Lib.Math.max.code 2 (some .int), Cond.instanceMethod yX0_hasProxyOn, Cond.selects RX0 yX0_hasProxyOn yX0_hasProxyOn, Cond.code yX0_hasProxyOn cX0_hasProxyOn 4 (some .boolean), Cond.methodLink RX2 90 yX2_makeFree, Cond.instanceMethod yX2_makeFree, Cond.selects RX2 yX2_makeFree yX2_makeFree, Cond.code yX2_makeFree cX2_makeFree 3 none, Cond.instanceMethod yX0_empty, Cond.selects RX0 yX0_empty yX0_empty, Cond.code yX0_empty cX0_empty 1 none, Cond.methodLink RX0 48 yX0_endProxies, Cond.instanceMethod yX0_endProxies, Cond.selects RX0 yX0_endProxies yX0_endProxies, Cond.code yX0_endProxies cX0_endProxies 1 none, Cond.instanceMethod yX1_endAllOn, Cond.selects RX1 yX1_endAllOn yX1_endAllOn, Cond.code yX1_endAllOn cX1_endAllOn 3 none, Cond.methodLink RL 99 yX3_giveBack, Cond.instanceMethod yX3_giveBack, Cond.selects RX3 yX3_giveBack yX3_giveBack, Cond.code yX3_giveBack cX3_giveBack 3 (some .int)]
def wsL_law0_r11 : List Cond := [Cond.methodLink RX3 113 yX3_right, Cond.instanceMethod yX3_right, Cond.selects RX3 yX3_right yX3_right, Cond.code yX3_right cX3_right 4 (some .int), Cond.methodLink RX3 91 yX3_binds, Cond.instanceMethod yX3_binds, Cond.selects RX3 yX3_binds yX3_binds, Cond.code yX3_binds cX3_binds 5 (some .int), Cond.fieldLink RX3 84 "BoxVaultModel" "orders" "I", Cond.methodLink RX3 94 yX3_isOrdered, Cond.instanceMethod yX3_isOrdered, Cond.selects RX3 yX3_isOrdered yX3_isOrdered, Cond.code yX3_isOrdered cX3_isOrdered 4 (some .boolean), Cond.methodLink RX3 87 yX3_isHeir, Cond.instanceMethod yX3_isHeir, Cond.selects RX3 yX3_isHeir yX3_isHeir, Cond.code yX3_isHeir cX3_isHeir 3 (some .boolean), Cond.methodLink RX3 97 yX3_noticesOf, Cond.instanceMethod yX3_noticesOf, Cond.selects RX3 yX3_noticesOf yX3_noticesOf, Cond.code yX3_noticesOf cX3_noticesOf 3 (some .int), Cond.methodLink RX3 76 yX3_overdue, Cond.instanceMethod yX3_overdue, Cond.selects RX3 yX3_overdue yX3_overdue]
def wsL_law0_r12 : List Cond := [Cond.code yX3_overdue cX3_overdue 2 (some .int), Cond.methodLink RX3 100 yX3_isProxy, Cond.instanceMethod yX3_isProxy, Cond.selects RX3 yX3_isProxy yX3_isProxy, Cond.code yX3_isProxy cX3_isProxy 5 (some .boolean), Cond.methodLink RX3 117 yX3_frees, Cond.instanceMethod yX3_frees, Cond.selects RX3 yX3_frees yX3_frees, Cond.code yX3_frees cX3_frees 3 none, Cond.methodLink RL 100 yL_drill, Cond.static yL_drill, Cond.codeWith yL_drill cL_drill 6 (some .int) [(0, 12, 15, 13), (0, 12, 19, 15)], Cond.methodLink RL 28 yX2_drill, Cond.instanceMethod yX2_drill, Cond.selects RX2 yX2_drill yX2_drill, Cond.code yX2_drill cX2_drill 5 (some .int), Cond.methodLink RX2 105 yX2_canWitness, Cond.instanceMethod yX2_canWitness, Cond.selects RX2 yX2_canWitness yX2_canWitness, Cond.code yX2_canWitness cX2_canWitness 3 (some .boolean), Cond.instanceMethod yX0_breakOpen, Cond.selects RX0 yX0_breakOpen yX0_breakOpen, Cond.code yX0_breakOpen cX0_breakOpen 2 none, Cond.methodLink RL 102 yX3_drill]
def wsL_law0_r13 : List Cond := [Cond.instanceMethod yX3_drill, Cond.selects RX3 yX3_drill yX3_drill, Cond.code yX3_drill cX3_drill 6 (some .int), Cond.methodLink RL 103 yL_fetch, Cond.static yL_fetch, Cond.codeWith yL_fetch cL_fetch 5 (some .int) [(0, 10, 13, 13), (0, 10, 17, 15)], Cond.methodLink RL 31 yX2_fetch, Cond.instanceMethod yX2_fetch, Cond.selects RX2 yX2_fetch yX2_fetch, Cond.code yX2_fetch cX2_fetch 5 (some .int), Cond.methodLink RX2 130 yX2_mayFetch, Cond.instanceMethod yX2_mayFetch, Cond.selects RX2 yX2_mayFetch yX2_mayFetch, Cond.code yX2_mayFetch cX2_mayFetch 5 (some .boolean), Cond.methodLink RL 105 yX3_fetch, Cond.instanceMethod yX3_fetch, Cond.selects RX3 yX3_fetch yX3_fetch, Cond.code yX3_fetch cX3_fetch 5 (some .int), Cond.methodLink RL 106 yL_proxy, Cond.static yL_proxy, Cond.codeWith yL_proxy cL_proxy 7 (some .int) [(0, 14, 17, 13), (0, 14, 21, 15)], Cond.methodLink RL 34 yX2_proxy, Cond.instanceMethod yX2_proxy, Cond.selects RX2 yX2_proxy yX2_proxy]
def wsL_law0_r14 : List Cond := [Cond.code yX2_proxy cX2_proxy 6 (some .int), Cond.instanceMethod yX0_addProxy, Cond.selects RX0 yX0_addProxy yX0_addProxy, Cond.code yX0_addProxy cX0_addProxy 4 none, Cond.methodLink RL 109 yX3_proxy, Cond.instanceMethod yX3_proxy, Cond.selects RX3 yX3_proxy yX3_proxy, Cond.code yX3_proxy cX3_proxy 6 (some .int), Cond.methodLink RL 110 yL_heir, Cond.static yL_heir, Cond.codeWith yL_heir cL_heir 6 (some .int) [(0, 19, 22, 13)], Cond.methodLink RL 38 yX2_heir, Cond.instanceMethod yX2_heir, Cond.selects RX2 yX2_heir yX2_heir, Cond.code yX2_heir cX2_heir 6 (some .boolean), Cond.methodLink RL 113 yX3_heir, Cond.instanceMethod yX3_heir, Cond.selects RX3 yX3_heir yX3_heir, Cond.code yX3_heir cX3_heir 5 (some .boolean), Cond.methodLink RL 114 yL_die, Cond.static yL_die, Cond.codeWith yL_die cL_die 4 (some .int) [(0, 9, 12, 13), (0, 9, 15, 15)], Cond.methodLink RL 42 yX2_die, Cond.instanceMethod yX2_die]
def wsL_law0_r15 : List Cond := [Cond.selects RX2 yX2_die yX2_die, Cond.code yX2_die cX2_die 4 (some .int), Cond.methodLink RL 116 yX3_die, Cond.instanceMethod yX3_die, Cond.selects RX3 yX3_die yX3_die, Cond.code yX3_die cX3_die 5 (some .int), Cond.methodLink RL 117 yL_order, Cond.static yL_order, Cond.codeWith yL_order cL_order 7 (some .int) [(0, 14, 17, 13), (0, 14, 21, 15)], Cond.methodLink RL 45 yX2_order, Cond.instanceMethod yX2_order, Cond.selects RX2 yX2_order yX2_order, Cond.code yX2_order cX2_order 6 (some .int), Cond.instanceMethod yX1_isFull, Cond.selects RX1 yX1_isFull yX1_isFull, Cond.code yX1_isFull cX1_isFull 1 (some .boolean), Cond.instanceMethod yX1_add, Cond.selects RX1 yX1_add yX1_add, Cond.code yX1_add cX1_add 6 (some .int), Cond.methodLink RL 119 yX3_order, Cond.instanceMethod yX3_order, Cond.selects RX3 yX3_order yX3_order, Cond.code yX3_order cX3_order 5 (some .int), Cond.methodLink RL 120 yL_lift]
def wsL_law0_r16 : List Cond := [Cond.static yL_lift, Cond.codeWith yL_lift cL_lift 4 (some .int) [(0, 16, 19, 52), (0, 16, 22, 15)], Cond.classLink RL 52 "java/lang/IndexOutOfBoundsException", Cond.methodLink RL 48 yX2_lift, Cond.instanceMethod yX2_lift, Cond.selects RX2 yX2_lift yX2_lift, Cond.code yX2_lift cX2_lift 3 (some .boolean), Cond.classLink RX2 177 "java/lang/IndexOutOfBoundsException", Cond.initialized "java/lang/IndexOutOfBoundsException", Cond.instanceMethod yX1_isInForce, Cond.selects RX1 yX1_isInForce yX1_isInForce, Cond.code yX1_isInForce cX1_isInForce 2 (some .boolean), Cond.instanceMethod yX1_isBinding, Cond.selects RX1 yX1_isBinding yX1_isBinding, Cond.code yX1_isBinding cX1_isBinding 2 (some .boolean), Cond.methodLink RX1 36 yX1_bindingOn, Cond.instanceMethod yX1_end, Cond.selects RX1 yX1_end yX1_end, Cond.code yX1_end cX1_end 2 none, Cond.methodLink RL 122 yX3_lift, Cond.instanceMethod yX3_lift, Cond.selects RX3 yX3_lift yX3_lift, Cond.code yX3_lift cX3_lift 3 (some .boolean), Cond.methodLink RL 123 yL_enter]
def wsL_law0_r17 : List Cond := [Cond.static yL_enter, Cond.codeWith yL_enter cL_enter 6 (some .int) [(0, 12, 15, 13), (0, 12, 19, 15)], Cond.methodLink RL 54 yX2_enter, Cond.instanceMethod yX2_enter, Cond.selects RX2 yX2_enter yX2_enter, Cond.code yX2_enter cX2_enter 6 (some .int), Cond.methodLink RL 125 yX3_enter, Cond.instanceMethod yX3_enter, Cond.selects RX3 yX3_enter yX3_enter, Cond.code yX3_enter cX3_enter 6 (some .int), Cond.methodLink RL 126 yL_may, Cond.static yL_may, Cond.codeWith yL_may cL_may 5 (some .int) [(0, 10, 13, 13)], Cond.methodLink RL 57 yX2_may, Cond.instanceMethod yX2_may, Cond.selects RX2 yX2_may yX2_may, Cond.code yX2_may cX2_may 4 (some .int), Cond.methodLink RL 128 yX3_may, Cond.instanceMethod yX3_may, Cond.selects RX3 yX3_may yX3_may, Cond.code yX3_may cX3_may 3 (some .int), Cond.methodLink RL 129 yL_mayAll, Cond.static yL_mayAll, Cond.codeWith yL_mayAll cL_mayAll 4 (some .int) [(0, 9, 12, 13)]]
def wsL_law0_r18 : List Cond := [Cond.methodLink RL 60 yX2_mayAll, Cond.instanceMethod yX2_mayAll, Cond.selects RX2 yX2_mayAll yX2_mayAll, Cond.code yX2_mayAll cX2_mayAll 5 (some .int), Cond.methodLink RL 131 yX3_mayAll, Cond.instanceMethod yX3_mayAll, Cond.selects RX3 yX3_mayAll yX3_mayAll, Cond.code yX3_mayAll cX3_mayAll 4 (some .int), Cond.methodLink RL 132 yL_holder, Cond.static yL_holder, Cond.codeWith yL_holder cL_holder 4 (some .int) [(0, 9, 12, 13)], Cond.methodLink RL 63 yX2_holder, Cond.instanceMethod yX2_holder, Cond.selects RX2 yX2_holder yX2_holder, Cond.code yX2_holder cX2_holder 2 (some .int), Cond.methodLink RL 134 yX3_holder, Cond.instanceMethod yX3_holder, Cond.selects RX3 yX3_holder yX3_holder, Cond.code yX3_holder cX3_holder 2 (some .int), Cond.methodLink RL 135 yL_notices, Cond.static yL_notices, Cond.codeWith yL_notices cL_notices 4 (some .int) [(0, 9, 12, 13)], Cond.methodLink RL 66 yX2_notices, Cond.instanceMethod yX2_notices]
def wsL_law0_r19 : List Cond := [Cond.selects RX2 yX2_notices yX2_notices, Cond.code yX2_notices cX2_notices 3 (some .int), Cond.methodLink RL 137 yX3_notices, Cond.instanceMethod yX3_notices, Cond.selects RX3 yX3_notices yX3_notices, Cond.code yX3_notices cX3_notices 2 (some .int), Cond.methodLink RL 138 yL_refusals, Cond.static yL_refusals, Cond.codeWith yL_refusals cL_refusals 4 (some .int) [(0, 9, 12, 13)], Cond.methodLink RL 69 yX2_refusals, Cond.instanceMethod yX2_refusals, Cond.selects RX2 yX2_refusals yX2_refusals, Cond.code yX2_refusals cX2_refusals 2 (some .int), Cond.methodLink RL 140 yX3_refusals, Cond.instanceMethod yX3_refusals, Cond.selects RX3 yX3_refusals yX3_refusals, Cond.code yX3_refusals cX3_refusals 2 (some .int), Cond.methodLink RL 141 yL_binding, Cond.static yL_binding, Cond.codeWith yL_binding cL_binding 4 (some .int) [(0, 9, 12, 13)], Cond.methodLink RL 72 yX2_binding, Cond.instanceMethod yX2_binding, Cond.selects RX2 yX2_binding yX2_binding, Cond.code yX2_binding cX2_binding 2 (some .int)]
def wsL_law0_r20 : List Cond := [Cond.methodLink RL 143 yX3_binding, Cond.instanceMethod yX3_binding, Cond.selects RX3 yX3_binding yX3_binding, Cond.code yX3_binding cX3_binding 2 (some .int)]
def wsL_law0 : List Cond := (wsL_law0_r1 ++ (wsL_law0_r2 ++ (wsL_law0_r3 ++ (wsL_law0_r4 ++ (wsL_law0_r5 ++ (wsL_law0_r6 ++ (wsL_law0_r7 ++ (wsL_law0_r8 ++ (wsL_law0_r9 ++ (wsL_law0_r10 ++ (wsL_law0_r11 ++ (wsL_law0_r12 ++ (wsL_law0_r13 ++ (wsL_law0_r14 ++ (wsL_law0_r15 ++ (wsL_law0_r16 ++ (wsL_law0_r17 ++ (wsL_law0_r18 ++ (wsL_law0_r19 ++ wsL_law0_r20))))))))))))))))))) ++ wsX20 ++ wsX30 ++ wsX10 ++ wsX00 ++ ([] : List Cond)
def wsL_law : List Cond := wsL_law0 ++ (vx_atS RX2 47 "java/lang/IllegalStateException" ["java/lang/RuntimeException", "java/lang/Exception"]).filter goodWord ++ (vx_atS RX2 98 "java/lang/IllegalArgumentException" ["java/lang/RuntimeException", "java/lang/Exception"]).filter goodWord ++ (vx_atS RX2 181 "java/lang/IndexOutOfBoundsException" ["java/lang/RuntimeException", "java/lang/Exception"]).filter goodWord
/-- words of one list among another's, by their places -/
theorem bv_mem {big : List Cond} (ws : List Cond) (ps : List Nat) (hp : ws = ps.filterMap (fun i => big[i]?)) : ∀ w ∈ ws, w ∈ big := by
  intro w hw
  rw [hp] at hw
  obtain ⟨i, -, hi⟩ := List.mem_filterMap.mp hw
  exact List.mem_of_getElem? hi
set_option maxRecDepth 20000 in
theorem bv_in_r1 : ∀ w ∈ wsL_law0_r1, w ∈ lw_tbl := fun w h => bv_mem wsL_law0_r1 [53, 54, 42, 540, 541, 45, 736, 55, 56, 57, 58, 59, 60, 61, 133, 63, 64, 43, 134, 89, 135, 88, 136, 137] (by decide +kernel) w h
set_option maxRecDepth 20000 in
theorem bv_in_r2 : ∀ w ∈ wsL_law0_r2, w ∈ lw_tbl := fun w h => bv_mem wsL_law0_r2 [138, 90, 44, 66, 67, 68, 69, 70, 71, 72, 73, 74, 92, 93, 94, 95, 97, 99, 101, 103, 105, 107, 109, 110] (by decide +kernel) w h
set_option maxRecDepth 20000 in
theorem bv_in_r3 : ∀ w ∈ wsL_law0_r3, w ∈ lw_tbl := fun w h => bv_mem wsL_law0_r3 [111, 542, 543, 544, 545, 548, 549, 550, 551, 552, 553, 554, 555, 556, 557, 558, 559, 560, 562, 563, 564, 565, 566, 152] (by decide +kernel) w h
set_option maxRecDepth 20000 in
theorem bv_in_r4 : ∀ w ∈ wsL_law0_r4, w ∈ lw_tbl := fun w h => bv_mem wsL_law0_r4 [153, 41, 154, 155, 156, 157, 158, 159, 160, 233, 50, 232, 161, 162, 163, 164, 49, 614, 615, 616, 617, 546, 547, 625] (by decide +kernel) w h
set_option maxRecDepth 20000 in
theorem bv_in_r5 : ∀ w ∈ wsL_law0_r5, w ∈ lw_tbl := fun w h => bv_mem wsL_law0_r5 [618, 619, 620, 621, 623, 31, 624, 610, 611, 612, 613, 249, 250, 251, 252, 253, 254, 255, 256, 258, 1, 259, 260, 261] (by decide +kernel) w h
set_option maxRecDepth 20000 in
theorem bv_in_r6 : ∀ w ∈ wsL_law0_r6, w ∈ lw_tbl := fun w h => bv_mem wsL_law0_r6 [262, 265, 2, 266, 268, 270, 3, 271, 272, 273, 274, 278, 4, 279, 626, 627, 628, 629, 630, 631, 632, 633, 634, 635] (by decide +kernel) w h
set_option maxRecDepth 20000 in
theorem bv_in_r7 : ∀ w ∈ wsL_law0_r7, w ∈ lw_tbl := fun w h => bv_mem wsL_law0_r7 [280, 281, 282, 283, 284, 285, 286, 287, 288, 289, 292, 5, 293, 636, 637, 638, 639, 640, 642, 32, 643, 295, 296, 297] (by decide +kernel) w h
set_option maxRecDepth 20000 in
theorem bv_in_r8 : ∀ w ∈ wsL_law0_r8, w ∈ lw_tbl := fun w h => bv_mem wsL_law0_r8 [298, 299, 300, 301, 302, 304, 6, 305, 308, 7, 309, 310, 312, 8, 313, 316, 9, 317, 318, 320, 10, 321, 324, 11] (by decide +kernel) w h
set_option maxRecDepth 20000 in
theorem bv_in_r9 : ∀ w ∈ wsL_law0_r9, w ∈ lw_tbl := fun w h => bv_mem wsL_law0_r9 [325, 326, 328, 12, 329, 330, 332, 13, 333, 334, 336, 14, 337, 340, 15, 341, 349, 350, 51, 351, 342, 344, 16, 345] (by decide +kernel) w h
set_option maxRecDepth 20000 in
theorem bv_in_r10 : ∀ w ∈ wsL_law0_r10, w ∈ lw_tbl := fun w h => bv_mem wsL_law0_r10 [346, 347, 348, 354, 17, 355, 357, 359, 18, 360, 363, 19, 364, 365, 367, 20, 368, 371, 21, 372, 644, 645, 646, 647] (by decide +kernel) w h
set_option maxRecDepth 20000 in
theorem bv_in_r11 : ∀ w ∈ wsL_law0_r11, w ∈ lw_tbl := fun w h => bv_mem wsL_law0_r11 [648, 650, 33, 651, 652, 654, 34, 655, 561, 656, 658, 35, 659, 660, 662, 36, 663, 664, 666, 37, 667, 668, 670, 38] (by decide +kernel) w h
set_option maxRecDepth 20000 in
theorem bv_in_r12 : ∀ w ∈ wsL_law0_r12, w ∈ lw_tbl := fun w h => bv_mem wsL_law0_r12 [671, 672, 674, 39, 675, 676, 678, 40, 679, 373, 374, 375, 376, 377, 378, 379, 382, 384, 22, 385, 390, 23, 391, 680] (by decide +kernel) w h
set_option maxRecDepth 20000 in
theorem bv_in_r13 : ∀ w ∈ wsL_law0_r13, w ∈ lw_tbl := fun w h => bv_mem wsL_law0_r13 [681, 682, 683, 392, 393, 394, 395, 396, 397, 398, 400, 402, 24, 403, 684, 685, 686, 687, 405, 406, 407, 408, 409, 410] (by decide +kernel) w h
set_option maxRecDepth 20000 in
theorem bv_in_r14 : ∀ w ∈ wsL_law0_r14, w ∈ lw_tbl := fun w h => bv_mem wsL_law0_r14 [411, 417, 25, 418, 688, 689, 690, 691, 419, 420, 421, 422, 423, 424, 425, 692, 693, 694, 695, 427, 428, 429, 430, 431] (by decide +kernel) w h
set_option maxRecDepth 20000 in
theorem bv_in_r15 : ∀ w ∈ wsL_law0_r15, w ∈ lw_tbl := fun w h => bv_mem wsL_law0_r15 [432, 433, 696, 697, 698, 699, 435, 436, 437, 438, 439, 440, 441, 445, 26, 446, 450, 27, 451, 700, 701, 702, 703, 452] (by decide +kernel) w h
set_option maxRecDepth 20000 in
theorem bv_in_r16 : ∀ w ∈ wsL_law0_r16, w ∈ lw_tbl := fun w h => bv_mem wsL_law0_r16 [453, 454, 455, 456, 457, 458, 459, 461, 52, 479, 28, 480, 484, 29, 485, 486, 489, 30, 490, 704, 705, 706, 707, 491] (by decide +kernel) w h
set_option maxRecDepth 20000 in
theorem bv_in_r17 : ∀ w ∈ wsL_law0_r17, w ∈ lw_tbl := fun w h => bv_mem wsL_law0_r17 [492, 493, 494, 495, 496, 497, 708, 709, 710, 711, 498, 499, 500, 501, 502, 503, 504, 712, 713, 714, 715, 505, 506, 507] (by decide +kernel) w h
set_option maxRecDepth 20000 in
theorem bv_in_r18 : ∀ w ∈ wsL_law0_r18, w ∈ lw_tbl := fun w h => bv_mem wsL_law0_r18 [508, 509, 510, 511, 716, 717, 718, 719, 512, 513, 514, 515, 516, 517, 518, 720, 721, 722, 723, 519, 520, 521, 522, 523] (by decide +kernel) w h
set_option maxRecDepth 20000 in
theorem bv_in_r19 : ∀ w ∈ wsL_law0_r19, w ∈ lw_tbl := fun w h => bv_mem wsL_law0_r19 [524, 525, 724, 725, 726, 727, 526, 527, 528, 529, 530, 531, 532, 728, 729, 730, 731, 533, 534, 535, 536, 537, 538, 539] (by decide +kernel) w h
set_option maxRecDepth 20000 in
theorem bv_in_r20 : ∀ w ∈ wsL_law0_r20, w ∈ lw_tbl := fun w h => bv_mem wsL_law0_r20 [732, 733, 734, 735] (by decide +kernel) w h
set_option maxRecDepth 20000 in
theorem bv_in_x0 : ∀ w ∈ wsX00, w ∈ lw_tbl := fun w h => bv_mem wsX00 [112, 114, 116, 118, 120, 122, 124, 126, 128, 130] (by decide +kernel) w h
set_option maxRecDepth 20000 in
theorem bv_in_x1 : ∀ w ∈ wsX10, w ∈ lw_tbl := fun w h => bv_mem wsX10 [75, 77, 79, 81, 83, 85] (by decide +kernel) w h
set_option maxRecDepth 20000 in
theorem bv_in_x2 : ∀ w ∈ wsX20, w ∈ lw_tbl := fun w h => bv_mem wsX20 [139, 141, 143, 145, 147, 149] (by decide +kernel) w h
set_option maxRecDepth 20000 in
theorem bv_in_x3 : ∀ w ∈ wsX30, w ∈ lw_tbl := fun w h => bv_mem wsX30 [567, 569, 571, 573, 575, 577, 579, 581, 583, 585, 587, 589, 591, 593, 595, 597, 599, 601, 603, 605, 607] (by decide +kernel) w h
theorem wsL_law_in0 : ∀ w ∈ wsL_law0, w ∈ lw_tbl := List.forall_mem_append.mpr ⟨List.forall_mem_append.mpr ⟨List.forall_mem_append.mpr ⟨List.forall_mem_append.mpr ⟨List.forall_mem_append.mpr ⟨List.forall_mem_append.mpr ⟨bv_in_r1, List.forall_mem_append.mpr ⟨bv_in_r2, List.forall_mem_append.mpr ⟨bv_in_r3, List.forall_mem_append.mpr ⟨bv_in_r4, List.forall_mem_append.mpr ⟨bv_in_r5, List.forall_mem_append.mpr ⟨bv_in_r6, List.forall_mem_append.mpr ⟨bv_in_r7, List.forall_mem_append.mpr ⟨bv_in_r8, List.forall_mem_append.mpr ⟨bv_in_r9, List.forall_mem_append.mpr ⟨bv_in_r10, List.forall_mem_append.mpr ⟨bv_in_r11, List.forall_mem_append.mpr ⟨bv_in_r12, List.forall_mem_append.mpr ⟨bv_in_r13, List.forall_mem_append.mpr ⟨bv_in_r14, List.forall_mem_append.mpr ⟨bv_in_r15, List.forall_mem_append.mpr ⟨bv_in_r16, List.forall_mem_append.mpr ⟨bv_in_r17, List.forall_mem_append.mpr ⟨bv_in_r18, List.forall_mem_append.mpr ⟨bv_in_r19, bv_in_r20⟩⟩⟩⟩⟩⟩⟩⟩⟩⟩⟩⟩⟩⟩⟩⟩⟩⟩⟩, bv_in_x2⟩, bv_in_x3⟩, bv_in_x1⟩, bv_in_x0⟩, fun _ h => absurd h List.not_mem_nil⟩
theorem wsL_law_x0 : ∀ w ∈ (vx_atS RX2 47 "java/lang/IllegalStateException" ["java/lang/RuntimeException", "java/lang/Exception"]).filter goodWord, w ∈ lw_tbl := by decide +kernel
theorem wsL_law_x1 : ∀ w ∈ (vx_atS RX2 98 "java/lang/IllegalArgumentException" ["java/lang/RuntimeException", "java/lang/Exception"]).filter goodWord, w ∈ lw_tbl := by decide +kernel
theorem wsL_law_x2 : ∀ w ∈ (vx_atS RX2 181 "java/lang/IndexOutOfBoundsException" ["java/lang/RuntimeException", "java/lang/Exception"]).filter goodWord, w ∈ lw_tbl := by decide +kernel
theorem wsL_law_in : ∀ w ∈ wsL_law, w ∈ lw_tbl := fun w h => (List.mem_append.mp h).elim (fun h => (List.mem_append.mp h).elim (fun h => (List.mem_append.mp h).elim (fun h => wsL_law_in0 w h) (fun h => wsL_law_x0 w h)) (fun h => wsL_law_x1 w h)) (fun h => wsL_law_x2 w h)
abbrev vwCl : List vw_C := [(RX0, TX0, 10), (RX1, TX1, 6), (RX2, TX2, 6), (RX3, TX3, 21)]
end
