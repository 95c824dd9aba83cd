section
-- ===== PART A: goes FIRST, ahead of the names: the tables' words, and 'selects' of the private methods out of them =====
/-- a private method of a class that the tables say can be made, by its rows of tables_1 -/
def lw_okq (q : MethodName × Nat) : Prop := (q.1.cls ≠ "java/lang/invoke/MethodHandle" ∧ q.1.cls ≠ "java/lang/invoke/VarHandle") ∧ Cond.instantiable q.1.cls q.2 ∈ tables_1 ∧ Cond.privateMethod q.1 ∈ tables_1 ∧ Cond.instanceMethod q.1 ∈ tables_1
theorem lw_p0 : lw_okq (⟨"java/lang/Throwable", "fillInStackTrace", "(I)Ljava/lang/Throwable;"⟩, 6) := ⟨⟨by decide +kernel, by decide +kernel⟩, List.mem_of_getElem? (i := 162) (by decide +kernel), List.mem_of_getElem? (i := 160) (by decide +kernel), List.mem_of_getElem? (i := 161) (by decide +kernel)⟩
theorem lw_p1 : lw_okq (⟨"BoxVault", "boxAt", "(I)LBoxVault$Box;"⟩, 6) := ⟨⟨by decide +kernel, by decide +kernel⟩, List.mem_of_getElem? (i := 13) (by decide +kernel), List.mem_of_getElem? (i := 216) (by decide +kernel), List.mem_of_getElem? (i := 217) (by decide +kernel)⟩
theorem lw_p2 : lw_okq (⟨"BoxVault$Box", "isFree", "()Z"⟩, 10) := ⟨⟨by decide +kernel, by decide +kernel⟩, List.mem_of_getElem? (i := 49) (by decide +kernel), List.mem_of_getElem? (i := 223) (by decide +kernel), List.mem_of_getElem? (i := 224) (by decide +kernel)⟩
theorem lw_p3 : lw_okq (⟨"BoxVault", "isAlive", "(I)Z"⟩, 6) := ⟨⟨by decide +kernel, by decide +kernel⟩, List.mem_of_getElem? (i := 13) (by decide +kernel), List.mem_of_getElem? (i := 228) (by decide +kernel), List.mem_of_getElem? (i := 229) (by decide +kernel)⟩
theorem lw_p4 : lw_okq (⟨"BoxVault$Box", "startRent", "(II)V"⟩, 10) := ⟨⟨by decide +kernel, by decide +kernel⟩, List.mem_of_getElem? (i := 49) (by decide +kernel), List.mem_of_getElem? (i := 236) (by decide +kernel), List.mem_of_getElem? (i := 237) (by decide +kernel)⟩
theorem lw_p5 : lw_okq (⟨"BoxVault$Box", "isRented", "()Z"⟩, 10) := ⟨⟨by decide +kernel, by decide +kernel⟩, List.mem_of_getElem? (i := 49) (by decide +kernel), List.mem_of_getElem? (i := 250) (by decide +kernel), List.mem_of_getElem? (i := 251) (by decide +kernel)⟩
theorem lw_p6 : lw_okq (⟨"BoxVault", "rightOf", "(ILBoxVault$Box;I)I"⟩, 6) := ⟨⟨by decide +kernel, by decide +kernel⟩, List.mem_of_getElem? (i := 13) (by decide +kernel), List.mem_of_getElem? (i := 262) (by decide +kernel), List.mem_of_getElem? (i := 263) (by decide +kernel)⟩
theorem lw_p7 : lw_okq (⟨"BoxVault$OrderBook", "bindingOn", "(I)I"⟩, 6) := ⟨⟨by decide +kernel, by decide +kernel⟩, List.mem_of_getElem? (i := 23) (by decide +kernel), List.mem_of_getElem? (i := 266) (by decide +kernel), List.mem_of_getElem? (i := 267) (by decide +kernel)⟩
theorem lw_p8 : lw_okq (⟨"BoxVault", "orderAllows", "(ILBoxVault$Box;I)Z"⟩, 6) := ⟨⟨by decide +kernel, by decide +kernel⟩, List.mem_of_getElem? (i := 13) (by decide +kernel), List.mem_of_getElem? (i := 270) (by decide +kernel), List.mem_of_getElem? (i := 271) (by decide +kernel)⟩
theorem lw_p9 : lw_okq (⟨"BoxVault$OrderBook", "kindOf", "(I)I"⟩, 6) := ⟨⟨by decide +kernel, by decide +kernel⟩, List.mem_of_getElem? (i := 23) (by decide +kernel), List.mem_of_getElem? (i := 274) (by decide +kernel), List.mem_of_getElem? (i := 275) (by decide +kernel)⟩
theorem lw_p10 : lw_okq (⟨"BoxVault$OrderBook", "has", "(I)Z"⟩, 6) := ⟨⟨by decide +kernel, by decide +kernel⟩, List.mem_of_getElem? (i := 23) (by decide +kernel), List.mem_of_getElem? (i := 278) (by decide +kernel), List.mem_of_getElem? (i := 279) (by decide +kernel)⟩
theorem lw_p11 : lw_okq (⟨"BoxVault$OrderBook", "personOf", "(I)I"⟩, 6) := ⟨⟨by decide +kernel, by decide +kernel⟩, List.mem_of_getElem? (i := 23) (by decide +kernel), List.mem_of_getElem? (i := 282) (by decide +kernel), List.mem_of_getElem? (i := 283) (by decide +kernel)⟩
theorem lw_p12 : lw_okq (⟨"BoxVault", "isHeirOfDead", "(II)Z"⟩, 6) := ⟨⟨by decide +kernel, by decide +kernel⟩, List.mem_of_getElem? (i := 13) (by decide +kernel), List.mem_of_getElem? (i := 286) (by decide +kernel), List.mem_of_getElem? (i := 287) (by decide +kernel)⟩
theorem lw_p13 : lw_okq (⟨"BoxVault", "isHeir", "(II)Z"⟩, 6) := ⟨⟨by decide +kernel, by decide +kernel⟩, List.mem_of_getElem? (i := 13) (by decide +kernel), List.mem_of_getElem? (i := 290) (by decide +kernel), List.mem_of_getElem? (i := 291) (by decide +kernel)⟩
theorem lw_p14 : lw_okq (⟨"BoxVault", "holderAllows", "(LBoxVault$Box;I)Z"⟩, 6) := ⟨⟨by decide +kernel, by decide +kernel⟩, List.mem_of_getElem? (i := 13) (by decide +kernel), List.mem_of_getElem? (i := 294) (by decide +kernel), List.mem_of_getElem? (i := 295) (by decide +kernel)⟩
theorem lw_p15 : lw_okq (⟨"BoxVault$Box", "noticesOn", "(I)I"⟩, 10) := ⟨⟨by decide +kernel, by decide +kernel⟩, List.mem_of_getElem? (i := 49) (by decide +kernel), List.mem_of_getElem? (i := 298) (by decide +kernel), List.mem_of_getElem? (i := 299) (by decide +kernel)⟩
def lw_privs_1 : List (MethodName × Nat) := [(⟨"java/lang/Throwable", "fillInStackTrace", "(I)Ljava/lang/Throwable;"⟩, 6), (⟨"BoxVault", "boxAt", "(I)LBoxVault$Box;"⟩, 6), (⟨"BoxVault$Box", "isFree", "()Z"⟩, 10), (⟨"BoxVault", "isAlive", "(I)Z"⟩, 6), (⟨"BoxVault$Box", "startRent", "(II)V"⟩, 10), (⟨"BoxVault$Box", "isRented", "()Z"⟩, 10), (⟨"BoxVault", "rightOf", "(ILBoxVault$Box;I)I"⟩, 6), (⟨"BoxVault$OrderBook", "bindingOn", "(I)I"⟩, 6), (⟨"BoxVault", "orderAllows", "(ILBoxVault$Box;I)Z"⟩, 6), (⟨"BoxVault$OrderBook", "kindOf", "(I)I"⟩, 6), (⟨"BoxVault$OrderBook", "has", "(I)Z"⟩, 6), (⟨"BoxVault$OrderBook", "personOf", "(I)I"⟩, 6), (⟨"BoxVault", "isHeirOfDead", "(II)Z"⟩, 6), (⟨"BoxVault", "isHeir", "(II)Z"⟩, 6), (⟨"BoxVault", "holderAllows", "(LBoxVault$Box;I)Z"⟩, 6), (⟨"BoxVault$Box", "noticesOn", "(I)I"⟩, 10)]
theorem lw_r1 : ∀ q ∈ lw_privs_1, lw_okq q := List.forall_mem_cons.mpr ⟨lw_p0, List.forall_mem_cons.mpr ⟨lw_p1, List.forall_mem_cons.mpr ⟨lw_p2, List.forall_mem_cons.mpr ⟨lw_p3, List.forall_mem_cons.mpr ⟨lw_p4, List.forall_mem_cons.mpr ⟨lw_p5, List.forall_mem_cons.mpr ⟨lw_p6, List.forall_mem_cons.mpr ⟨lw_p7, List.forall_mem_cons.mpr ⟨lw_p8, List.forall_mem_cons.mpr ⟨lw_p9, List.forall_mem_cons.mpr ⟨lw_p10, List.forall_mem_cons.mpr ⟨lw_p11, List.forall_mem_cons.mpr ⟨lw_p12, List.forall_mem_cons.mpr ⟨lw_p13, List.forall_mem_cons.mpr ⟨lw_p14, List.forall_mem_cons.mpr ⟨lw_p15, fun _ h => absurd h List.not_mem_nil⟩⟩⟩⟩⟩⟩⟩⟩⟩⟩⟩⟩⟩⟩⟩⟩
theorem lw_p16 : lw_okq (⟨"BoxVault$Box", "overdueOn", "(I)I"⟩, 10) := ⟨⟨by decide +kernel, by decide +kernel⟩, List.mem_of_getElem? (i := 49) (by decide +kernel), List.mem_of_getElem? (i := 302) (by decide +kernel), List.mem_of_getElem? (i := 303) (by decide +kernel)⟩
theorem lw_p17 : lw_okq (⟨"BoxVault$Box", "hasProxyOn", "(II)Z"⟩, 10) := ⟨⟨by decide +kernel, by decide +kernel⟩, List.mem_of_getElem? (i := 49) (by decide +kernel), List.mem_of_getElem? (i := 312) (by decide +kernel), List.mem_of_getElem? (i := 313) (by decide +kernel)⟩
theorem lw_p18 : lw_okq (⟨"BoxVault", "makeFree", "(ILBoxVault$Box;)V"⟩, 6) := ⟨⟨by decide +kernel, by decide +kernel⟩, List.mem_of_getElem? (i := 13) (by decide +kernel), List.mem_of_getElem? (i := 317) (by decide +kernel), List.mem_of_getElem? (i := 318) (by decide +kernel)⟩
theorem lw_p19 : lw_okq (⟨"BoxVault$Box", "empty", "()V"⟩, 10) := ⟨⟨by decide +kernel, by decide +kernel⟩, List.mem_of_getElem? (i := 49) (by decide +kernel), List.mem_of_getElem? (i := 321) (by decide +kernel), List.mem_of_getElem? (i := 322) (by decide +kernel)⟩
theorem lw_p20 : lw_okq (⟨"BoxVault$Box", "endProxies", "()V"⟩, 10) := ⟨⟨by decide +kernel, by decide +kernel⟩, List.mem_of_getElem? (i := 49) (by decide +kernel), List.mem_of_getElem? (i := 325) (by decide +kernel), List.mem_of_getElem? (i := 326) (by decide +kernel)⟩
theorem lw_p21 : lw_okq (⟨"BoxVault$OrderBook", "endAllOn", "(I)V"⟩, 6) := ⟨⟨by decide +kernel, by decide +kernel⟩, List.mem_of_getElem? (i := 23) (by decide +kernel), List.mem_of_getElem? (i := 329) (by decide +kernel), List.mem_of_getElem? (i := 330) (by decide +kernel)⟩
theorem lw_p22 : lw_okq (⟨"BoxVault", "canWitness", "(LBoxVault$Box;I)Z"⟩, 6) := ⟨⟨by decide +kernel, by decide +kernel⟩, List.mem_of_getElem? (i := 13) (by decide +kernel), List.mem_of_getElem? (i := 342) (by decide +kernel), List.mem_of_getElem? (i := 343) (by decide +kernel)⟩
theorem lw_p23 : lw_okq (⟨"BoxVault$Box", "breakOpen", "(I)V"⟩, 10) := ⟨⟨by decide +kernel, by decide +kernel⟩, List.mem_of_getElem? (i := 49) (by decide +kernel), List.mem_of_getElem? (i := 348) (by decide +kernel), List.mem_of_getElem? (i := 349) (by decide +kernel)⟩
theorem lw_p24 : lw_okq (⟨"BoxVault", "mayFetch", "(ILBoxVault$Box;I)Z"⟩, 6) := ⟨⟨by decide +kernel, by decide +kernel⟩, List.mem_of_getElem? (i := 13) (by decide +kernel), List.mem_of_getElem? (i := 360) (by decide +kernel), List.mem_of_getElem? (i := 361) (by decide +kernel)⟩
theorem lw_p25 : lw_okq (⟨"BoxVault$Box", "addProxy", "(III)V"⟩, 10) := ⟨⟨by decide +kernel, by decide +kernel⟩, List.mem_of_getElem? (i := 49) (by decide +kernel), List.mem_of_getElem? (i := 375) (by decide +kernel), List.mem_of_getElem? (i := 376) (by decide +kernel)⟩
theorem lw_p26 : lw_okq (⟨"BoxVault$OrderBook", "isFull", "()Z"⟩, 6) := ⟨⟨by decide +kernel, by decide +kernel⟩, List.mem_of_getElem? (i := 23) (by decide +kernel), List.mem_of_getElem? (i := 403) (by decide +kernel), List.mem_of_getElem? (i := 404) (by decide +kernel)⟩
theorem lw_p27 : lw_okq (⟨"BoxVault$OrderBook", "add", "(IIII)I"⟩, 6) := ⟨⟨by decide +kernel, by decide +kernel⟩, List.mem_of_getElem? (i := 23) (by decide +kernel), List.mem_of_getElem? (i := 408) (by decide +kernel), List.mem_of_getElem? (i := 409) (by decide +kernel)⟩
theorem lw_p28 : lw_okq (⟨"BoxVault$OrderBook", "isInForce", "(I)Z"⟩, 6) := ⟨⟨by decide +kernel, by decide +kernel⟩, List.mem_of_getElem? (i := 23) (by decide +kernel), List.mem_of_getElem? (i := 437) (by decide +kernel), List.mem_of_getElem? (i := 438) (by decide +kernel)⟩
theorem lw_p29 : lw_okq (⟨"BoxVault$OrderBook", "isBinding", "(I)Z"⟩, 6) := ⟨⟨by decide +kernel, by decide +kernel⟩, List.mem_of_getElem? (i := 23) (by decide +kernel), List.mem_of_getElem? (i := 442) (by decide +kernel), List.mem_of_getElem? (i := 443) (by decide +kernel)⟩
theorem lw_p30 : lw_okq (⟨"BoxVault$OrderBook", "end", "(I)V"⟩, 6) := ⟨⟨by decide +kernel, by decide +kernel⟩, List.mem_of_getElem? (i := 23) (by decide +kernel), List.mem_of_getElem? (i := 447) (by decide +kernel), List.mem_of_getElem? (i := 448) (by decide +kernel)⟩
theorem lw_p31 : lw_okq (⟨"BoxVaultModel", "fails", "(I)I"⟩, 21) := ⟨⟨by decide +kernel, by decide +kernel⟩, List.mem_of_getElem? (i := 500) (by decide +kernel), List.mem_of_getElem? (i := 581) (by decide +kernel), List.mem_of_getElem? (i := 582) (by decide +kernel)⟩
def lw_privs_2 : List (MethodName × Nat) := [(⟨"BoxVault$Box", "overdueOn", "(I)I"⟩, 10), (⟨"BoxVault$Box", "hasProxyOn", "(II)Z"⟩, 10), (⟨"BoxVault", "makeFree", "(ILBoxVault$Box;)V"⟩, 6), (⟨"BoxVault$Box", "empty", "()V"⟩, 10), (⟨"BoxVault$Box", "endProxies", "()V"⟩, 10), (⟨"BoxVault$OrderBook", "endAllOn", "(I)V"⟩, 6), (⟨"BoxVault", "canWitness", "(LBoxVault$Box;I)Z"⟩, 6), (⟨"BoxVault$Box", "breakOpen", "(I)V"⟩, 10), (⟨"BoxVault", "mayFetch", "(ILBoxVault$Box;I)Z"⟩, 6), (⟨"BoxVault$Box", "addProxy", "(III)V"⟩, 10), (⟨"BoxVault$OrderBook", "isFull", "()Z"⟩, 6), (⟨"BoxVault$OrderBook", "add", "(IIII)I"⟩, 6), (⟨"BoxVault$OrderBook", "isInForce", "(I)Z"⟩, 6), (⟨"BoxVault$OrderBook", "isBinding", "(I)Z"⟩, 6), (⟨"BoxVault$OrderBook", "end", "(I)V"⟩, 6), (⟨"BoxVaultModel", "fails", "(I)I"⟩, 21)]
theorem lw_r2 : ∀ q ∈ lw_privs_2, lw_okq q := List.forall_mem_cons.mpr ⟨lw_p16, List.forall_mem_cons.mpr ⟨lw_p17, List.forall_mem_cons.mpr ⟨lw_p18, List.forall_mem_cons.mpr ⟨lw_p19, List.forall_mem_cons.mpr ⟨lw_p20, List.forall_mem_cons.mpr ⟨lw_p21, List.forall_mem_cons.mpr ⟨lw_p22, List.forall_mem_cons.mpr ⟨lw_p23, List.forall_mem_cons.mpr ⟨lw_p24, List.forall_mem_cons.mpr ⟨lw_p25, List.forall_mem_cons.mpr ⟨lw_p26, List.forall_mem_cons.mpr ⟨lw_p27, List.forall_mem_cons.mpr ⟨lw_p28, List.forall_mem_cons.mpr ⟨lw_p29, List.forall_mem_cons.mpr ⟨lw_p30, List.forall_mem_cons.mpr ⟨lw_p31, fun _ h => absurd h List.not_mem_nil⟩⟩⟩⟩⟩⟩⟩⟩⟩⟩⟩⟩⟩⟩⟩⟩
theorem lw_p32 : lw_okq (⟨"BoxVaultModel", "isRented", "(I)Z"⟩, 21) := ⟨⟨by decide +kernel, by decide +kernel⟩, List.mem_of_getElem? (i := 500) (by decide +kernel), List.mem_of_getElem? (i := 600) (by decide +kernel), List.mem_of_getElem? (i := 601) (by decide +kernel)⟩
theorem lw_p33 : lw_okq (⟨"BoxVaultModel", "right", "(II)I"⟩, 21) := ⟨⟨by decide +kernel, by decide +kernel⟩, List.mem_of_getElem? (i := 500) (by decide +kernel), List.mem_of_getElem? (i := 608) (by decide +kernel), List.mem_of_getElem? (i := 609) (by decide +kernel)⟩
theorem lw_p34 : lw_okq (⟨"BoxVaultModel", "binds", "(I)I"⟩, 21) := ⟨⟨by decide +kernel, by decide +kernel⟩, List.mem_of_getElem? (i := 500) (by decide +kernel), List.mem_of_getElem? (i := 612) (by decide +kernel), List.mem_of_getElem? (i := 613) (by decide +kernel)⟩
theorem lw_p35 : lw_okq (⟨"BoxVaultModel", "isOrdered", "(II)Z"⟩, 21) := ⟨⟨by decide +kernel, by decide +kernel⟩, List.mem_of_getElem? (i := 500) (by decide +kernel), List.mem_of_getElem? (i := 616) (by decide +kernel), List.mem_of_getElem? (i := 617) (by decide +kernel)⟩
theorem lw_p36 : lw_okq (⟨"BoxVaultModel", "isHeir", "(II)Z"⟩, 21) := ⟨⟨by decide +kernel, by decide +kernel⟩, List.mem_of_getElem? (i := 500) (by decide +kernel), List.mem_of_getElem? (i := 620) (by decide +kernel), List.mem_of_getElem? (i := 621) (by decide +kernel)⟩
theorem lw_p37 : lw_okq (⟨"BoxVaultModel", "noticesOf", "(I)I"⟩, 21) := ⟨⟨by decide +kernel, by decide +kernel⟩, List.mem_of_getElem? (i := 500) (by decide +kernel), List.mem_of_getElem? (i := 624) (by decide +kernel), List.mem_of_getElem? (i := 625) (by decide +kernel)⟩
theorem lw_p38 : lw_okq (⟨"BoxVaultModel", "overdue", "(I)I"⟩, 21) := ⟨⟨by decide +kernel, by decide +kernel⟩, List.mem_of_getElem? (i := 500) (by decide +kernel), List.mem_of_getElem? (i := 628) (by decide +kernel), List.mem_of_getElem? (i := 629) (by decide +kernel)⟩
theorem lw_p39 : lw_okq (⟨"BoxVaultModel", "isProxy", "(II)Z"⟩, 21) := ⟨⟨by decide +kernel, by decide +kernel⟩, List.mem_of_getElem? (i := 500) (by decide +kernel), List.mem_of_getElem? (i := 632) (by decide +kernel), List.mem_of_getElem? (i := 633) (by decide +kernel)⟩
theorem lw_p40 : lw_okq (⟨"BoxVaultModel", "frees", "(I)V"⟩, 21) := ⟨⟨by decide +kernel, by decide +kernel⟩, List.mem_of_getElem? (i := 500) (by decide +kernel), List.mem_of_getElem? (i := 636) (by decide +kernel), List.mem_of_getElem? (i := 637) (by decide +kernel)⟩
def lw_privs_3 : List (MethodName × Nat) := [(⟨"BoxVaultModel", "isRented", "(I)Z"⟩, 21), (⟨"BoxVaultModel", "right", "(II)I"⟩, 21), (⟨"BoxVaultModel", "binds", "(I)I"⟩, 21), (⟨"BoxVaultModel", "isOrdered", "(II)Z"⟩, 21), (⟨"BoxVaultModel", "isHeir", "(II)Z"⟩, 21), (⟨"BoxVaultModel", "noticesOf", "(I)I"⟩, 21), (⟨"BoxVaultModel", "overdue", "(I)I"⟩, 21), (⟨"BoxVaultModel", "isProxy", "(II)Z"⟩, 21), (⟨"BoxVaultModel", "frees", "(I)V"⟩, 21)]
theorem lw_r3 : ∀ q ∈ lw_privs_3, lw_okq q := List.forall_mem_cons.mpr ⟨lw_p32, List.forall_mem_cons.mpr ⟨lw_p33, List.forall_mem_cons.mpr ⟨lw_p34, List.forall_mem_cons.mpr ⟨lw_p35, List.forall_mem_cons.mpr ⟨lw_p36, List.forall_mem_cons.mpr ⟨lw_p37, List.forall_mem_cons.mpr ⟨lw_p38, List.forall_mem_cons.mpr ⟨lw_p39, List.forall_mem_cons.mpr ⟨lw_p40, fun _ h => absurd h List.not_mem_nil⟩⟩⟩⟩⟩⟩⟩⟩⟩
def lw_privs : List (MethodName × Nat) := lw_privs_1 ++ (lw_privs_2 ++ (lw_privs_3))
def lw_tbl : List Cond := k2_sels lw_privs ++ tables_1
theorem lw_privs_ok : ∀ q ∈ lw_privs, lw_okq q := by
  show ∀ q ∈ lw_privs_1 ++ (lw_privs_2 ++ (lw_privs_3)), lw_okq q
  exact List.forall_mem_append.mpr ⟨lw_r1, List.forall_mem_append.mpr ⟨lw_r2, lw_r3⟩⟩
-- ===== end of PART A; then your names; then what follows =====
end
section
/-! ===== BEGIN words of one list among another's, by their places ===== -/
theorem goodIn_r {big : List Cond} (ws : List Cond) (ps : List Nat) (hp : ws = ps.filterMap (fun i => big[i]?)) (h : ws.all goodWord = true) : GoodIn big ws := by
  intro w hw
  have h1 := List.all_eq_true.mp h w hw
  rw [hp] at hw
  obtain ⟨i, -, hi⟩ := List.mem_filterMap.mp hw
  have hm : w ∈ big := by first | exact List.mem_of_getElem? hi | exact List.getElem?_mem hi
  exact ⟨hm, good_of_word h1⟩
theorem goodIn_app {big a b : List Cond} (ha : GoodIn big a) (hb : GoodIn big b) : GoodIn big (a ++ b) := fun w h => (List.mem_append.mp h).elim (ha w) (hb w)
theorem goodIn_ca {big a b : List Cond} {c : Cond} (ha : GoodIn big (c :: a)) (hb : GoodIn big b) : GoodIn big (c :: (a ++ b)) := fun w h => (List.mem_cons.mp h).elim (fun e => ha w (List.mem_cons.mpr (Or.inl e))) (fun h => (List.mem_append.mp h).elim (fun h => ha w (List.mem_cons.mpr (Or.inr h))) (hb w))
theorem goodIn_sub {big ws : List Cond} (hm : ∀ w ∈ ws, w ∈ big) (h : ws.all goodWord = true) : GoodIn big ws := fun w hw => ⟨hm w hw, good_of_word (List.all_eq_true.mp h w hw)⟩
/-! ===== END ===== -/

/-! ===== BEGIN exceptions that leave a method, and their catching by the caller (launches without stack traces) ===== -/
section VXA
/-! The laws vx_back, vx_callV, vx_callS, vx_callSW, vx_throw0, vx_throwS follow proofs of the library, with one case more: JvmDerived/Free/Laws.lean (Back.of_free), Shelf42/LK1.lean (callV, callS), Shelf/KitTraced.lean (throwNew0V, throwNewS). -/
/-- where a method has thrown q: the class by its name, the cell, what was written, the world -/
def vx_T (XC : String → State → State → Prop) (st : State) (q : Addr) (t : State) (mc ms : Nat) (free : Addr → Prop) : Prop :=
  ∃ (E : String) (ce : Cell) (L : List Loc), XC E st t ∧ t.heap[q]? = some ce ∧ ce.vm = .none ∧ st.vm.findClass E = some ce.cls ∧ st.WarmedH t.vm ∧ st.sameButNew ({ t with vm := st.vm } : State) L mc ms ∧ ∀ z ∈ L, free z.base
def vx_Q (Qc : Array Value → State → Outcome → State → Prop) (XC : String → State → State → Prop) (mc ms : Nat) (free : Addr → Prop) : Array Value → State → Outcome → State → Prop := fun a st o t =>
  (Qc a st o t ∧ ∃ L, FrameEnd st o t L mc ms ∧ ∀ q ∈ L, free q.base) ∨ ∃ q, o = .threw q ∧ vx_T XC st q t mc ms free
/-- a callee that returns or throws -/
def vx_Met (l : Launch) (y : MethodName) (ws : List Cond) (rm : Room) (Pc : Array Value → State → Prop) (Qc : Array Value → State → Outcome → State → Prop) (XC : String → State → State → Prop) (mc ms : Nat) (free : Addr → Prop) : Prop :=
  MetFree l y (headSpec ws rm) Pc (fun _ _ _ _ _ => True) (vx_Q Qc XC mc ms free)
def vx_Post (XC : String → State → State → Prop) (mc ms : Nat) (free : Addr → Prop) : Pt → Array Value → Addr → Pt → Prop := fun A a q B =>
  ∃ (g : JFrame) (mk : MethodId) (t : State) (L : List Loc) (E : String) (ce : Cell), B.U.heap = t.heap ∧ B.U.vm = t.vm ∧ XC E (A.U.calling g mk a) t ∧ t.heap[q]? = some ce ∧ ce.vm = .none ∧ A.U.vm.findClass E = some ce.cls ∧ B.locs = A.locs ++ L ∧ (∀ z ∈ L, free z.base) ∧ B.cells = A.cells + mc ∧ B.slots = A.slots + ms
def vx_Back (l : Launch) (R : Room) (p : Program) (e : Env) (below : List Frame) (s : State) (sargs : Array Value) (y : MethodName) (len W9 : Nat)
    (Pre : Pt → Array Value → Prop) (Post : Pt → Array Value → Option Value → Pt → Prop) (PostX : Pt → Array Value → Addr → Pt → Prop) : Prop :=
  ∀ (m : MethodId) (meth : Method) (c : Code) (A : Pt) (g : JFrame) (ig : Instr) (mk : MethodId) (a : Array Value),
    Stand p l e R s m sargs below meth c A.U A.locs A.cells A.slots → g.method = m → g.locals.size = c.maxLocals → decode c.code g.pc = .ok (ig, len) →
    2 * g.monitorRoom + (g.stack.map fun v => v.category).sum ≤ W9 → A.U.methodNamed? y = some mk → Pre A a →
    (∃ (v : Option Value) (B : Pt), Stand p l e R s m sargs below meth c B.U B.locs B.cells B.slots ∧ Post A a v B ∧
      Steps p.tables e below (doInvoke e (A.U.setTop g) [] mk a).1 (B.U.setTop { g with pc := g.pc + len, stack := v.toList ++ g.stack })) ∨
    (∃ (q : Addr) (B : Pt), Stand p l e R s m sargs below meth c B.U B.locs B.cells B.slots ∧ PostX A a q B ∧
      Steps p.tables e below (doInvoke e (A.U.setTop g) [] mk a).1 ((B.U.setTop g).pushFrame (.throwing q)))
section Payer
variable {l : Launch} {R : Room} {p : Program} {e : Env} {below : List Frame} {s : State} {sargs : Array Value} {y : MethodName} {len W9 : Nat}
theorem vx_back {ws : List Cond} {rm : Room} {Pc : Array Value → State → Prop} {Qc : Array Value → State → Outcome → State → Prop} {XC : String → State → State → Prop} {mc ms : Nat} {free : Addr → Prop} {bytes : ByteArray} {maxL : Nat} {ret : Option FieldType}
    (hM : vx_Met l y ws rm Pc Qc XC mc ms free) (hblind : FrameBlind Pc) (hrc : rm.cells = mc) (hrs : rm.slots = ms)
    (hframes : rm.frames + 1 ≤ R.frames) (hlocals : W9 + (maxL + 11) + rm.locals ≤ R.locals)
    (hws : ∀ w ∈ ws, ∀ a' U, s.WarmedH U.vm → w.before a' U = true) (hcode : Cond.code y bytes maxL ret ∈ ws) (hinit : ∀ a' U, s.WarmedH U.vm → (Cond.initialized y.cls).before a' U = true) :
    vx_Back l R p e below s sargs y len W9 (PreOf R mc ms Pc) (PostOf Qc mc ms free) (vx_Post XC mc ms free) := by
  intro m meth c A g ig mk a X hg hsize hdg hW hn hp
  have h1 : (headSpec ws rm).pre.before a A.U = true := atoms_intro fun w hw => hws w hw _ _ X.warmed
  have h2 : (Cond.code y bytes maxL ret).before a A.U = true := hws _ hcode _ _ X.warmed
  have h3 : (Cond.initialized y.cls).before a A.U = true := hinit _ _ X.warmed
  have h4 : A.cells + (headSpec ws rm).room.cells ≤ R.cells := by rw [show (headSpec ws rm).room.cells = mc from hrc]; exact hp.1
  have h5 : A.slots + (headSpec ws rm).room.slots ≤ R.slots := by rw [show (headSpec ws rm).room.slots = ms from hrs]; exact hp.2.1
  have hPc : Pc a (A.U.calling g mk a) := hblind _ _ _ _ hp.2.2
  obtain ⟨U, Ls, c0, s0⟩ := A
  dsimp only [Pt.U, Pt.locs, Pt.cells, Pt.slots] at h1 h2 h3 h4 h5 X hn hPc ⊢
  obtain ⟨methY, cY, hmY, hcY, -, hlY, -, -, -, -⟩ := Cond.code_spec hn h2
  obtain ⟨kY, hkY, -⟩ := className_of_methodNamed hn
  have hinitY : kY.init = .initialized := Cond.initialized_spec (findClass_of_methodNamed hn) hkY h3
  have h : At U g.method c below := by rw [hg]; exact X.here
  have hlocals9 : W9 + (maxL + 11) + (headSpec ws rm).room.locals ≤ R.locals := hlocals
  have happ : (headSpec ws rm).appliesLoose y e.platform (U.calling g mk a) = true :=
    Spec.appliesLoose_calling (g := g) h hdg hn hkY hinitY
      (X.room_calling (g := g) (R' := (headSpec ws rm).room) hsize hmY hcY hframes (by rw [hlY]; omega) h4 h5) h1
  obtain ⟨mid, hmid⟩ := h.above
  have hfr : (U.setTop g).frames = (.java g :: mid) ++ below := by rw [State.frames_setTop' g h.top, hmid]; rfl
  obtain ⟨o, s₂, hsteps, -, hend, hq⟩ := Steps.callFree hM p X.admits X.cas X.clock (acts := []) hfr happ hPc trivial
  have hq' : vx_Q Qc XC mc ms free a (U.calling g mk a) o s₂ := hq
  rw [State.frames_setTop' g h.top] at hend
  obtain ⟨g₀, hg0⟩ := Option.isSome_iff_exists.mp h.top
  obtain ⟨r, hr⟩ := State.topJava?_eq_some.mp hg0
  have hr' : (({ U with heap := s₂.heap, slotsUsed := s₂.slotsUsed } : State).setVm s₂.vm).frames = .java g₀ :: r := hr
  rcases hq' with ⟨hqc, L, hfe, hL⟩ | ⟨q, rfl, E, ce, L, hx, hce, hcv, hcl, hW₂, hsm, hL⟩
  · obtain ⟨⟨v, rfl⟩, hW₂, e2, q2, q3, q4, q5, q6⟩ := id hfe
    have e3 : s₂ = ({ (U.calling g mk a).setFrames s₂.frames with heap := s₂.heap, slotsUsed := s₂.slotsUsed } : State).setVm s₂.vm := by
      have : s₂ = ({ s₂ with vm := (U.calling g mk a).vm } : State).setVm s₂.vm := rfl
      rw [e2] at this
      exact this
    obtain ⟨c₂, i₂, len₂, hc₂, hd₂, hf₂⟩ := hend
    have hW' : U.WarmedH s₂.vm := hW₂
    have hcc : c₂ = c := by
      have h1 : s₂.code? g.method = U.code? g.method := by
        rw [State.code?_eq, State.code?_eq, hW'.alike.method?]
      exact Option.some.inj (hc₂.symm.trans (h1.trans h.code))
    subst hcc
    have hlen : len₂ = len := by rw [hdg] at hd₂; cases hd₂; rfl
    subst hlen
    have hs₂ : s₂ = (({ U with heap := s₂.heap, slotsUsed := s₂.slotsUsed } : State).setVm s₂.vm).setTop { g with pc := g.pc + len₂, stack := v.toList ++ g.stack } := by
      refine e3.trans ?_
      rw [hf₂, State.calling_eq h.top, State.setFrames_setFrames, State.setTop_of_frames _ hr', hr]
      rfl
    have hsame : U.sameButNew ({ U with heap := s₂.heap, slotsUsed := s₂.slotsUsed } : State) L mc ms := by
      refine ⟨?_, q2, q3, q4, q5, q6⟩
      obtain ⟨t, ht, -⟩ := State.frames_cons hr
      show ({ U with heap := s₂.heap, slotsUsed := s₂.slotsUsed } : State) = { U.setFrames U.frames with heap := s₂.heap, slotsUsed := s₂.slotsUsed }
      rw [State.setFrames_self ht]
    subst hg
    refine Or.inl ⟨v, ⟨(({ U with heap := s₂.heap, slotsUsed := s₂.slotsUsed } : State).setVm s₂.vm), Ls ++ L, c0 + mc, s0 + ms⟩,
      ⟨X.admits, X.cas, X.clock, X.frames, X.room, X.hears, X.method, X.code, (X.here.setHeapUsed s₂.heap s₂.slotsUsed).setVm hW'.alike, X.tail, State.WarmedH.trans X.warmed hW', X.limits, X.bytes, X.same.trans (hsame.setVm s.vm)⟩,
      ⟨g, mk, s₂, L, rfl, rfl, hqc, rfl, hL, rfl, rfl⟩, ?_⟩
    show Steps p.tables e below _ ((({ U with heap := s₂.heap, slotsUsed := s₂.slotsUsed } : State).setVm s₂.vm).setTop { g with pc := g.pc + len₂, stack := v.toList ++ g.stack })
    rw [← hs₂]
    exact hsteps
  · obtain ⟨e2, q2, q3, q4, q5, q6⟩ := id hsm
    have e3 : s₂ = ({ (U.calling g mk a).setFrames s₂.frames with heap := s₂.heap, slotsUsed := s₂.slotsUsed } : State).setVm s₂.vm := by
      have : s₂ = ({ s₂ with vm := (U.calling g mk a).vm } : State).setVm s₂.vm := rfl
      rw [e2] at this
      exact this
    have hf₂ : s₂.frames = .throwing q :: .java g :: U.frames.tail := hend
    have hW' : U.WarmedH s₂.vm := hW₂
    have hs₂ : s₂ = ((({ U with heap := s₂.heap, slotsUsed := s₂.slotsUsed } : State).setVm s₂.vm).setTop g).pushFrame (.throwing q) := by
      refine e3.trans ?_
      rw [hf₂, State.calling_eq h.top, State.setFrames_setFrames, State.pushFrame, State.frames_setTop _ hr', State.setTop_of_frames _ hr', State.setFrames_setFrames, hr]
      rfl
    have hsame : U.sameButNew ({ U with heap := s₂.heap, slotsUsed := s₂.slotsUsed } : State) L mc ms := by
      refine ⟨?_, q2, q3, q4, q5, q6⟩
      obtain ⟨t, ht, -⟩ := State.frames_cons hr
      show ({ U with heap := s₂.heap, slotsUsed := s₂.slotsUsed } : State) = { U.setFrames U.frames with heap := s₂.heap, slotsUsed := s₂.slotsUsed }
      rw [State.setFrames_self ht]
    subst hg
    refine Or.inr ⟨q, ⟨(({ U with heap := s₂.heap, slotsUsed := s₂.slotsUsed } : State).setVm s₂.vm), Ls ++ L, c0 + mc, s0 + ms⟩,
      ⟨X.admits, X.cas, X.clock, X.frames, X.room, X.hears, X.method, X.code, (X.here.setHeapUsed s₂.heap s₂.slotsUsed).setVm hW'.alike, X.tail, State.WarmedH.trans X.warmed hW', X.limits, X.bytes, X.same.trans (hsame.setVm s.vm)⟩,
      ⟨g, mk, s₂, L, E, ce, rfl, rfl, hx, hce, hcv, hcl, rfl, hL, rfl, rfl⟩, ?_⟩
    show Steps p.tables e below _ (((({ U with heap := s₂.heap, slotsUsed := s₂.slotsUsed } : State).setVm s₂.vm).setTop g).pushFrame (.throwing q))
    rw [← hs₂]
    exact hsteps
end Payer
section Calls
variable {p : Program} {l : Launch} {e : Env} {R : Room} {s : State} {m : MethodId} {args : Array Value} {below : List Frame} {meth : Method} {c : Code} {T : State} {locs : List Loc} {cells slots : Nat}
theorem vx_callV (X : Stand p l e R s m args below meth c T locs cells slots) (hexec : p.tables.exec = Jvm.exec) {own C : String} {index : Nat} {y : MethodName} {bytes : ByteArray} {maxL : Nat} {ret : Option FieldType}
    (hown : s.vm.findClass own = some m.cls) (hlink : (Cond.methodLink own index y).before args s = true) (hinst : (Cond.instanceMethod y).before args s = true) (hsel : (Cond.selects C y y).before args s = true)
    (hcode : (Cond.code y bytes maxL ret).before args s = true) (hy : y.cls ≠ "java/lang/invoke/MethodHandle" ∧ y.cls ≠ "java/lang/invoke/VarHandle")
    {W9 : Nat} {Pre : Pt → Array Value → Prop} {Post : Pt → Array Value → Option Value → Pt → Prop} {PostX : Pt → Array Value → Addr → Pt → Prop} (hK : vx_Back l R p e below s args y 3 W9 Pre Post PostX)
    {b : Addr} {cellB : Cell} (hcell : T.heap[b]? = some cellB) (hobj : cellB.vm.isStatics = false) (hcls : s.vm.findClass C = some cellB.cls)
    {g : JFrame} (hg : g.method = m) (hsize : g.locals.size = c.maxLocals) {argsL rest : List Value} (hlen : ∀ sig, parseMethodDescriptor y.desc = some sig → argsL.length = sig.parameters.length)
    (hstack : g.stack = argsL.reverse ++ .ref b :: rest) (hW : 2 * g.monitorRoom + (rest.map fun v => v.category).sum ≤ W9) (hdg : decode c.code g.pc = .ok (.invokevirtual index, 3))
    (hpre : ∀ vm₁, s.WarmedH vm₁ → Pre ⟨T.setVm vm₁, locs, cells, slots⟩ (Value.ref b :: argsL).toArray) :
    (∃ (v : Option Value) (vm₁ : Vm) (B : Pt), s.WarmedH vm₁ ∧ Stand p l e R s m args below meth c B.U B.locs B.cells B.slots ∧ Post ⟨T.setVm vm₁, locs, cells, slots⟩ (Value.ref b :: argsL).toArray v B ∧
      ∀ target, Steps p.tables e below (B.U.setTop { g with pc := g.pc + 3, stack := v.toList ++ rest }) target → Steps p.tables e below (T.setTop g) target) ∨
    (∃ (q : Addr) (vm₁ : Vm) (B : Pt), s.WarmedH vm₁ ∧ Stand p l e R s m args below meth c B.U B.locs B.cells B.slots ∧ PostX ⟨T.setVm vm₁, locs, cells, slots⟩ (Value.ref b :: argsL).toArray q B ∧
      Steps p.tables e below (T.setTop g) ((B.U.setTop { g with stack := rest }).pushFrame (.throwing q))) := by
  obtain ⟨mk, methM, hnamed, hmethM, hstM, habM⟩ := Cond.instanceMethod_spec hinst
  obtain ⟨methM', cM, hmethM', -, -, -, -, -, -, hsigM⟩ := Cond.code_spec hnamed hcode
  cases hmethM.symm.trans hmethM'
  obtain ⟨c2, r2, m2, q1, q2, q3, q4, kP, hkP, hkPi⟩ := Cond.selects_spec hsel
  cases hcls.symm.trans q1
  cases (State.methodFound?_of_named hnamed hy).symm.trans q2
  cases hnamed.symm.trans q3
  have hselP : selectMethod e.platform s.vm cellB.cls mk = .method mk := by rw [Launch.admits_selectMethod X.admits]; exact q4
  obtain ⟨vm₁, X₁, hstep₁⟩ := X.invokevirtual hexec hown hlink hnamed hmethM hstM hkP hkPi hy (a := b) (cell := cellB) hcell
    (fun z h => by rw [h] at hobj; cases hobj) hselP hmethM habM hkP hkPi (g := g) hg (argsL := argsL) (rest := rest) (hlen _ hsigM) hstack hdg
  rcases hK m meth c ⟨T.setVm vm₁, locs, cells, slots⟩ { g with stack := rest } (.invokevirtual index) mk (Value.ref b :: argsL).toArray X₁ hg hsize hdg hW (X₁.named hnamed) (hpre vm₁ X₁.warmed) with ⟨v, B, X', hpost, hsteps⟩ | ⟨q, B, X', hpost, hsteps⟩
  · exact Or.inl ⟨v, vm₁, B, X₁.warmed, X', hpost, fun target h => hstep₁ _ fun acts => by rw [doInvoke_state]; exact hsteps.trans h⟩
  · exact Or.inr ⟨q, vm₁, B, X₁.warmed, X', hpost, hstep₁ _ fun acts => by rw [doInvoke_state]; exact hsteps⟩
theorem vx_callS (X : Stand p l e R s m args below meth c T locs cells slots) (hexec : p.tables.exec = Jvm.exec) {own : String} {index : Nat} {y : MethodName} {bytes : ByteArray} {maxL : Nat} {ret : Option FieldType}
    (hown : s.vm.findClass own = some m.cls) (hlink : (Cond.methodLink own index y).before args s = true) (hstat : (Cond.static y).before args s = true) (hinit : (Cond.initialized y.cls).before args s = true)
    (hcode : (Cond.code y bytes maxL ret).before args s = true) (hy : y.cls ≠ "java/lang/invoke/MethodHandle" ∧ y.cls ≠ "java/lang/invoke/VarHandle")
    {W9 : Nat} {Pre : Pt → Array Value → Prop} {Post : Pt → Array Value → Option Value → Pt → Prop} {PostX : Pt → Array Value → Addr → Pt → Prop} (hK : vx_Back l R p e below s args y 3 W9 Pre Post PostX)
    {g : JFrame} (hg : g.method = m) (hsize : g.locals.size = c.maxLocals) {argsL rest : List Value} (hlen : ∀ sig, parseMethodDescriptor y.desc = some sig → argsL.length = sig.parameters.length)
    (hstack : g.stack = argsL.reverse ++ rest) (hW : 2 * g.monitorRoom + (rest.map fun v => v.category).sum ≤ W9) (hdg : decode c.code g.pc = .ok (.invokestatic index, 3))
    (hpre : ∀ vm₁, s.WarmedH vm₁ → Pre ⟨T.setVm vm₁, locs, cells, slots⟩ argsL.toArray) :
    (∃ (v : Option Value) (vm₁ : Vm) (B : Pt), s.WarmedH vm₁ ∧ Stand p l e R s m args below meth c B.U B.locs B.cells B.slots ∧ Post ⟨T.setVm vm₁, locs, cells, slots⟩ argsL.toArray v B ∧
      ∀ target, Steps p.tables e below (B.U.setTop { g with pc := g.pc + 3, stack := v.toList ++ rest }) target → Steps p.tables e below (T.setTop g) target) ∨
    (∃ (q : Addr) (vm₁ : Vm) (B : Pt), s.WarmedH vm₁ ∧ Stand p l e R s m args below meth c B.U B.locs B.cells B.slots ∧ PostX ⟨T.setVm vm₁, locs, cells, slots⟩ argsL.toArray q B ∧
      Steps p.tables e below (T.setTop g) ((B.U.setTop { g with stack := rest }).pushFrame (.throwing q))) := by
  obtain ⟨mk, hnamed⟩ := Cond.code_named hcode
  obtain ⟨methM, cM, hmethM, -, -, -, -, -, -, hsigM⟩ := Cond.code_spec hnamed hcode
  have hstatic : methM.isStatic = true := Cond.static_spec hnamed hmethM hstat
  obtain ⟨kP, hkP, -⟩ := className_of_methodNamed hnamed
  have hinitP : kP.init = .initialized := Cond.initialized_spec (findClass_of_methodNamed hnamed) hkP hinit
  obtain ⟨vm₁, X₁, hstep₁⟩ := X.invokestatic hexec hown hlink hnamed hmethM hstatic hkP hinitP hy (g := g) hg (argsL := argsL) (rest := rest) (hlen _ hsigM) hstack hdg
  rcases hK m meth c ⟨T.setVm vm₁, locs, cells, slots⟩ { g with stack := rest } (.invokestatic index) mk argsL.toArray X₁ hg hsize hdg hW (X₁.named hnamed) (hpre vm₁ X₁.warmed) with ⟨v, B, X', hpost, hsteps⟩ | ⟨q, B, X', hpost, hsteps⟩
  · exact Or.inl ⟨v, vm₁, B, X₁.warmed, X', hpost, fun target h => hstep₁ _ fun acts => by rw [doInvoke_state]; exact hsteps.trans h⟩
  · exact Or.inr ⟨q, vm₁, B, X₁.warmed, X', hpost, hstep₁ _ fun acts => by rw [doInvoke_state]; exact hsteps⟩
end Calls
theorem vx_cls {s : State} {T : State} {vm₁ : Vm} {E : String} {k : ClassId} (hW : s.WarmedH vm₁) (h : (T.setVm vm₁).vm.findClass E = some k) : s.vm.findClass E = some k := by
  have h1 : vm₁.findClass E = some k := h
  rw [hW.alike.findClass] at h1
  exact h1
/-- the method's frame g, with q thrown over it -/
def vx_W (p : Program) (l : Launch) (e : Env) (R : Room) (s : State) (m : MethodId) (args : Array Value) (below : List Frame) (meth : Method) (c : Code) (H : Heap) (locs : List Loc) (cells slots : Nat) (Q : State → Prop) (g : JFrame) (q : Addr) : Prop :=
  ∀ T : State, T.heap = H → Stand p l e R s m args below meth c T locs cells slots → ∃ t, Steps p.tables e below ((T.setTop g).pushFrame (.throwing q)) t ∧ Q t
def vx_Run (p : Program) (l : Launch) (e : Env) (R : Room) (s : State) (m : MethodId) (args : Array Value) (below : List Frame) (meth : Method) (c : Code) (H : Heap) (locs : List Loc) (cells slots mc ms : Nat) (g : JFrame) (rest : List Value) (Qa : State → Outcome → State → Prop) (XC : String → State → State → Prop) (free : Addr → Prop) : Prop :=
  ∀ T : State, T.heap = H → Stand p l e R s m args below meth c T locs cells slots →
    (∃ (v : Option Value) (st₀ t T' : State) (L : List Loc), st₀.heap = H ∧ Stand p l e R s m args below meth c T' (locs ++ L) (cells + mc) (slots + ms) ∧ (∀ q ∈ L, free q.base) ∧ T'.heap = t.heap ∧ T'.vm = t.vm ∧ Qa st₀ (.returned v) t ∧
      Goes p e below T g T' { g with pc := g.pc + 3, stack := v.toList ++ rest }) ∨
    (∃ (q : Addr) (st₀ t T' : State) (L : List Loc) (E : String) (ce : Cell), st₀.heap = H ∧ Stand p l e R s m args below meth c T' (locs ++ L) (cells + mc) (slots + ms) ∧ (∀ z ∈ L, free z.base) ∧ T'.heap = t.heap ∧ T'.vm = t.vm ∧ XC E st₀ t ∧ t.heap[q]? = some ce ∧ ce.vm = .none ∧ s.vm.findClass E = some ce.cls ∧
      Steps p.tables e below (T.setTop g) ((T'.setTop { g with stack := rest }).pushFrame (.throwing q)))
def vx_X {S : Type} (px : S → Prop) (B : String → S → State → Prop) (A : Nat → Prop) : String → State → State → Prop := fun E st t => ∃ u : S, px u ∧ B E u t ∧ va_F A st t
section Runs
variable {p : Program} {l : Launch} {e : Env} {R : Room} {s : State} {m : MethodId} {args : Array Value} {below : List Frame} {meth : Method} {c : Code} {H : Heap} {locs : List Loc} {cells slots : Nat}
variable {y : MethodName} {bytes cc : ByteArray} {maxL nL mc ms n index : Nat} {ret : Option FieldType} {ws : List Cond} {rm : Room} {Pc : Array Value → State → Prop} {Qc : Array Value → State → Outcome → State → Prop} {XC : String → State → State → Prop} {free : Addr → Prop} {Ts : List Cond} {own C : String} {b : Addr} {As rest : List Value} {g : JFrame}
theorem vx_callBack (cb : CallB R s args own index y bytes maxL ret ws rm mc ms n) (hM : vx_Met l y ws rm Pc Qc XC mc ms free) (hbl : FrameBlind Pc) : vx_Back l R p e below s args y 3 8 (PreOf R mc ms Pc) (PostOf Qc mc ms free) (vx_Post XC mc ms free) := by
  obtain ⟨hrc, hrs, hfr, hlo, hws, hcw, -, hini, -⟩ := cb
  exact vx_back (bytes := bytes) (maxL := maxL) (ret := ret) hM hbl hrc hrs hfr hlo hws hcw (fun a' U hW => word_at hW (Or.inl (by first | rfl | simp [Cond.onTables, Cond.keeps, Cond.steady])) hini)
theorem vx_runV (S : CallFix p m c cc nL s args Ts own) (hM : vx_Met l y ws rm Pc Qc XC mc ms free) (cw : CallW R s args own C index y bytes maxL ret ws rm mc ms n) (hp : PreV s H C b Pc As)
    (hg : g.method = m) (hn : As.length = n) (hsize : g.locals.size = nL) (hstack : g.stack = As.reverse ++ .ref b :: rest) (hW : 2 * g.monitorRoom + (rest.map fun v => v.category).sum ≤ 8) (hdg : decode cc g.pc = .ok (.invokevirtual index, 3)) (hf : cells + mc ≤ R.cells ∧ slots + ms ≤ R.slots) :
    vx_Run p l e R s m args below meth c H locs cells slots mc ms g rest (Qc (Value.ref b :: As).toArray) XC free := by
  have hK : vx_Back l R p e below s args y 3 8 (PreOf R mc ms Pc) (PostOf Qc mc ms free) (vx_Post XC mc ms free) := vx_callBack cw.1 hM hp.1
  obtain ⟨⟨-, -, -, -, -, -, hcode, -, hy, hlen, hl⟩, hin, hse⟩ := cw
  obtain ⟨hx, hb, hml, ho, -⟩ := S
  obtain ⟨-, ⟨cellB, hcB, hoB, hclB⟩, hPc⟩ := hp
  intro T hT X
  rcases vx_callV X hx (C := C) (bytes := bytes) (maxL := maxL) (ret := ret) ho hl hin hse hcode hy hK (by rw [hT]; exact hcB) hoB hclB hg (hsize.trans hml.symm) (argsL := As) (rest := rest) (fun sig h => hn.trans (hlen sig h)) hstack hW (by rw [hb]; exact hdg)
    (fun vm₁ hW₁ => ⟨hf.1, hf.2, hPc (T.setVm vm₁) hT hW₁⟩) with ⟨v, vm₁, ⟨U', l2, c2, s2⟩, hW₁, X', ⟨g', mk, t, L, e1, e2, hq, h1, hL, h2, h3⟩, st⟩ | ⟨q, vm₁, ⟨U', l2, c2, s2⟩, hW₁, X', ⟨g', mk, t, L, E, ce, e1, e2, hq, hce, hcv, hcl, h1, hL, h2, h3⟩, st⟩
  · dsimp only [Pt.U, Pt.locs, Pt.cells, Pt.slots] at X' e1 e2 h1 h2 h3 st
    subst h1; subst h2; subst h3
    exact Or.inl ⟨v, (T.setVm vm₁).calling g' mk (Value.ref b :: As).toArray, t, U', L, hT, X', hL, e1, e2, hq, st⟩
  · dsimp only [Pt.U, Pt.locs, Pt.cells, Pt.slots] at X' e1 e2 h1 h2 h3 st hcl
    subst h1; subst h2; subst h3
    exact Or.inr ⟨q, (T.setVm vm₁).calling g' mk (Value.ref b :: As).toArray, t, U', L, E, ce, hT, X', hL, e1, e2, hq, hce, hcv, vx_cls hW₁ hcl, st⟩
theorem vx_runS (S : CallFix p m c cc nL s args Ts own) (hM : vx_Met l y ws rm Pc Qc XC mc ms free) (cw : CallB R s args own index y bytes maxL ret ws rm mc ms n ∧ (Cond.static y).before args s = true) (hp : PreS s H Pc As)
    (hg : g.method = m) (hn : As.length = n) (hsize : g.locals.size = nL) (hstack : g.stack = As.reverse ++ rest) (hW : 2 * g.monitorRoom + (rest.map fun v => v.category).sum ≤ 8) (hdg : decode cc g.pc = .ok (.invokestatic index, 3)) (hf : cells + mc ≤ R.cells ∧ slots + ms ≤ R.slots) :
    vx_Run p l e R s m args below meth c H locs cells slots mc ms g rest (Qc As.toArray) XC free := by
  have hK : vx_Back l R p e below s args y 3 8 (PreOf R mc ms Pc) (PostOf Qc mc ms free) (vx_Post XC mc ms free) := vx_callBack cw.1 hM hp.1
  obtain ⟨⟨-, -, -, -, -, -, hcode, hini, hy, hlen, hl⟩, hstt⟩ := cw
  obtain ⟨hx, hb, hml, ho, -⟩ := S
  intro T hT X
  rcases vx_callS X hx (bytes := bytes) (maxL := maxL) (ret := ret) ho hl hstt hini hcode hy hK hg (hsize.trans hml.symm) (argsL := As) (rest := rest) (fun sig h => hn.trans (hlen sig h)) hstack hW (by rw [hb]; exact hdg)
    (fun vm₁ hW₁ => ⟨hf.1, hf.2, hp.2 (T.setVm vm₁) hT hW₁⟩) with ⟨v, vm₁, ⟨U', l2, c2, s2⟩, hW₁, X', ⟨g', mk, t, L, e1, e2, hq, h1, hL, h2, h3⟩, st⟩ | ⟨q, vm₁, ⟨U', l2, c2, s2⟩, hW₁, X', ⟨g', mk, t, L, E, ce, e1, e2, hq, hce, hcv, hcl, h1, hL, h2, h3⟩, st⟩
  · dsimp only [Pt.U, Pt.locs, Pt.cells, Pt.slots] at X' e1 e2 h1 h2 h3 st
    subst h1; subst h2; subst h3
    exact Or.inl ⟨v, (T.setVm vm₁).calling g' mk As.toArray, t, U', L, hT, X', hL, e1, e2, hq, st⟩
  · dsimp only [Pt.U, Pt.locs, Pt.cells, Pt.slots] at X' e1 e2 h1 h2 h3 st hcl
    subst h1; subst h2; subst h3
    exact Or.inr ⟨q, (T.setVm vm₁).calling g' mk As.toArray, t, U', L, E, ce, hT, X', hL, e1, e2, hq, hce, hcv, vx_cls hW₁ hcl, st⟩
end Runs
section Rows
variable {p : Program} {l : Launch} {e : Env} {R : Room} {s : State} {m : MethodId} {args : Array Value} {below : List Frame} {meth : Method} {c : Code} {H : Heap} {locs : List Loc} {cells slots : Nat} {Q : State → Prop}
variable {mc ms : Nat} {free : Addr → Prop} {A0 A1 : Nat → Prop} {H0 : Heap} {a : Array Value} {pc : Nat} {ls : Array Slot} {st0 rest : List Value}
theorem vx_keep {st₀ t T' : State} {L : List Loc} (h0 : st₀.heap = H) (e1 : T'.heap = t.heap) (hS : va_S A0 H0 H locs) (hA : ∀ q, q < H.size → A1 q → A0 q) (hf : ∀ q, free q → A0 q) (hL : ∀ q ∈ L, free q.base) (hF : va_F A1 st₀ t) :
    H.size ≤ T'.heap.size ∧ (∀ q : Nat, q < H.size → ¬ A1 q → T'.heap[q]? = H[q]?) ∧ va_S A0 H0 T'.heap (locs ++ L) := by
  obtain ⟨hz, hk⟩ := hF
  rw [h0] at hz hk
  exact ⟨by rw [e1]; exact hz, fun q h1 h2 => by rw [e1]; exact hk q h1 h2,
    ⟨Nat.le_trans hS.1 (by rw [e1]; exact hz), fun q h1 h2 => by rw [e1, hk q (Nat.lt_of_lt_of_le h1 hS.1) (fun z => h2 (hA q (Nat.lt_of_lt_of_le h1 hS.1) z))]; exact hS.2.1 q h1 h2, fun q hq => by
      rcases List.mem_append.mp hq with h | h
      · exact hS.2.2 q h
      · exact hf _ (hL q h)⟩⟩
theorem vx_calli {S SX : Type} {post : Int32 → S → Prop} {px : SX → Prop} {B : S → State → Prop} {BX : String → SX → State → Prop} {AX : Nat → Prop} (hr : vx_Run p l e R s m args below meth c H locs cells slots mc ms (F0 m pc ls st0) rest (va_Qi post B A1 a) (vx_X px BX AX) free) (hS : va_S A0 H0 H locs) (hA : ∀ q, q < H.size → A1 q → A0 q) (hf : ∀ q, free q → A0 q) (hAX : ∀ q, q < H.size → AX q → A0 q)
    (kx : ∀ (E : String) (ce : Cell) (q9 : Addr) (u : SX) (t : State) (H1 : Heap) (locs1 : List Loc), t.heap = H1 → s.vm.Alike t.vm → px u → BX E u t → H.size ≤ H1.size → (∀ q : Nat, q < H.size → ¬ AX q → H1[q]? = H[q]?) → va_S A0 H0 H1 locs1 → H1[q9]? = some ce → ce.vm = .none → s.vm.findClass E = some ce.cls → vx_W p l e R s m args below meth c H1 locs1 (cells + mc) (slots + ms) Q (F0 m pc ls rest) q9)
    (kk : ∀ (r : Int32) (u : S) (t : State) (H1 : Heap) (locs1 : List Loc), t.heap = H1 → s.vm.Alike t.vm → post r u → B u t → H.size ≤ H1.size → (∀ q : Nat, q < H.size → ¬ A1 q → H1[q]? = H[q]?) → va_S A0 H0 H1 locs1 → W p l e R s m args below meth c H1 locs1 (cells + mc) (slots + ms) Q (F0 m (pc + 3) ls (.int r :: rest))) : W p l e R s m args below meth c H locs cells slots Q (F0 m pc ls st0) := by
  intro T hT X
  rcases hr T hT X with ⟨v, st₀, t, T', L, h0, X', hL, e1, e2, ⟨⟨r, u, hv, hp, hb⟩, hF⟩, st⟩ | ⟨q, st₀, t, T', L, E, ce, h0, X', hL, e1, e2, ⟨u, hp, hb, hF⟩, hce, hcv, hcl, st⟩
  · cases hv
    obtain ⟨k1, k2, k3⟩ := vx_keep h0 e1 hS hA hf hL hF
    obtain ⟨t2, a1, b1⟩ := kk r u t T'.heap (locs ++ L) e1.symm (by rw [← e2]; exact X'.warmed.alike) hp hb k1 k2 k3 T' rfl X'
    exact ⟨t2, st t2 a1, b1⟩
  · obtain ⟨k1, k2, k3⟩ := vx_keep h0 e1 hS hAX hf hL hF
    obtain ⟨t2, a1, b1⟩ := kx E ce q u t T'.heap (locs ++ L) e1.symm (by rw [← e2]; exact X'.warmed.alike) hp hb k1 k2 k3 (by rw [e1]; exact hce) hcv hcl T' rfl X'
    exact ⟨t2, st.trans a1, b1⟩
theorem vx_calll {S SX : Type} {post : Int64 → S → Prop} {px : SX → Prop} {B : S → State → Prop} {BX : String → SX → State → Prop} {AX : Nat → Prop} (hr : vx_Run p l e R s m args below meth c H locs cells slots mc ms (F0 m pc ls st0) rest (va_Ql post B A1 a) (vx_X px BX AX) free) (hS : va_S A0 H0 H locs) (hA : ∀ q, q < H.size → A1 q → A0 q) (hf : ∀ q, free q → A0 q) (hAX : ∀ q, q < H.size → AX q → A0 q)
    (kx : ∀ (E : String) (ce : Cell) (q9 : Addr) (u : SX) (t : State) (H1 : Heap) (locs1 : List Loc), t.heap = H1 → s.vm.Alike t.vm → px u → BX E u t → H.size ≤ H1.size → (∀ q : Nat, q < H.size → ¬ AX q → H1[q]? = H[q]?) → va_S A0 H0 H1 locs1 → H1[q9]? = some ce → ce.vm = .none → s.vm.findClass E = some ce.cls → vx_W p l e R s m args below meth c H1 locs1 (cells + mc) (slots + ms) Q (F0 m pc ls rest) q9)
    (kk : ∀ (r : Int64) (u : S) (t : State) (H1 : Heap) (locs1 : List Loc), t.heap = H1 → s.vm.Alike t.vm → post r u → B u t → H.size ≤ H1.size → (∀ q : Nat, q < H.size → ¬ A1 q → H1[q]? = H[q]?) → va_S A0 H0 H1 locs1 → W p l e R s m args below meth c H1 locs1 (cells + mc) (slots + ms) Q (F0 m (pc + 3) ls (.long r :: rest))) : W p l e R s m args below meth c H locs cells slots Q (F0 m pc ls st0) := by
  intro T hT X
  rcases hr T hT X with ⟨v, st₀, t, T', L, h0, X', hL, e1, e2, ⟨⟨r, u, hv, hp, hb⟩, hF⟩, st⟩ | ⟨q, st₀, t, T', L, E, ce, h0, X', hL, e1, e2, ⟨u, hp, hb, hF⟩, hce, hcv, hcl, st⟩
  · cases hv
    obtain ⟨k1, k2, k3⟩ := vx_keep h0 e1 hS hA hf hL hF
    obtain ⟨t2, a1, b1⟩ := kk r u t T'.heap (locs ++ L) e1.symm (by rw [← e2]; exact X'.warmed.alike) hp hb k1 k2 k3 T' rfl X'
    exact ⟨t2, st t2 a1, b1⟩
  · obtain ⟨k1, k2, k3⟩ := vx_keep h0 e1 hS hAX hf hL hF
    obtain ⟨t2, a1, b1⟩ := kx E ce q u t T'.heap (locs ++ L) e1.symm (by rw [← e2]; exact X'.warmed.alike) hp hb k1 k2 k3 (by rw [e1]; exact hce) hcv hcl T' rfl X'
    exact ⟨t2, st.trans a1, b1⟩
theorem vx_callf {S SX : Type} {post : UInt32 → S → Prop} {px : SX → Prop} {B : S → State → Prop} {BX : String → SX → State → Prop} {AX : Nat → Prop} (hr : vx_Run p l e R s m args below meth c H locs cells slots mc ms (F0 m pc ls st0) rest (va_Qf post B A1 a) (vx_X px BX AX) free) (hS : va_S A0 H0 H locs) (hA : ∀ q, q < H.size → A1 q → A0 q) (hf : ∀ q, free q → A0 q) (hAX : ∀ q, q < H.size → AX q → A0 q)
    (kx : ∀ (E : String) (ce : Cell) (q9 : Addr) (u : SX) (t : State) (H1 : Heap) (locs1 : List Loc), t.heap = H1 → s.vm.Alike t.vm → px u → BX E u t → H.size ≤ H1.size → (∀ q : Nat, q < H.size → ¬ AX q → H1[q]? = H[q]?) → va_S A0 H0 H1 locs1 → H1[q9]? = some ce → ce.vm = .none → s.vm.findClass E = some ce.cls → vx_W p l e R s m args below meth c H1 locs1 (cells + mc) (slots + ms) Q (F0 m pc ls rest) q9)
    (kk : ∀ (r : UInt32) (u : S) (t : State) (H1 : Heap) (locs1 : List Loc), t.heap = H1 → s.vm.Alike t.vm → post r u → B u t → H.size ≤ H1.size → (∀ q : Nat, q < H.size → ¬ A1 q → H1[q]? = H[q]?) → va_S A0 H0 H1 locs1 → W p l e R s m args below meth c H1 locs1 (cells + mc) (slots + ms) Q (F0 m (pc + 3) ls (.float r :: rest))) : W p l e R s m args below meth c H locs cells slots Q (F0 m pc ls st0) := by
  intro T hT X
  rcases hr T hT X with ⟨v, st₀, t, T', L, h0, X', hL, e1, e2, ⟨⟨r, u, hv, hp, hb⟩, hF⟩, st⟩ | ⟨q, st₀, t, T', L, E, ce, h0, X', hL, e1, e2, ⟨u, hp, hb, hF⟩, hce, hcv, hcl, st⟩
  · cases hv
    obtain ⟨k1, k2, k3⟩ := vx_keep h0 e1 hS hA hf hL hF
    obtain ⟨t2, a1, b1⟩ := kk r u t T'.heap (locs ++ L) e1.symm (by rw [← e2]; exact X'.warmed.alike) hp hb k1 k2 k3 T' rfl X'
    exact ⟨t2, st t2 a1, b1⟩
  · obtain ⟨k1, k2, k3⟩ := vx_keep h0 e1 hS hAX hf hL hF
    obtain ⟨t2, a1, b1⟩ := kx E ce q u t T'.heap (locs ++ L) e1.symm (by rw [← e2]; exact X'.warmed.alike) hp hb k1 k2 k3 (by rw [e1]; exact hce) hcv hcl T' rfl X'
    exact ⟨t2, st.trans a1, b1⟩
theorem vx_calld {S SX : Type} {post : UInt64 → S → Prop} {px : SX → Prop} {B : S → State → Prop} {BX : String → SX → State → Prop} {AX : Nat → Prop} (hr : vx_Run p l e R s m args below meth c H locs cells slots mc ms (F0 m pc ls st0) rest (va_Qd post B A1 a) (vx_X px BX AX) free) (hS : va_S A0 H0 H locs) (hA : ∀ q, q < H.size → A1 q → A0 q) (hf : ∀ q, free q → A0 q) (hAX : ∀ q, q < H.size → AX q → A0 q)
    (kx : ∀ (E : String) (ce : Cell) (q9 : Addr) (u : SX) (t : State) (H1 : Heap) (locs1 : List Loc), t.heap = H1 → s.vm.Alike t.vm → px u → BX E u t → H.size ≤ H1.size → (∀ q : Nat, q < H.size → ¬ AX q → H1[q]? = H[q]?) → va_S A0 H0 H1 locs1 → H1[q9]? = some ce → ce.vm = .none → s.vm.findClass E = some ce.cls → vx_W p l e R s m args below meth c H1 locs1 (cells + mc) (slots + ms) Q (F0 m pc ls rest) q9)
    (kk : ∀ (r : UInt64) (u : S) (t : State) (H1 : Heap) (locs1 : List Loc), t.heap = H1 → s.vm.Alike t.vm → post r u → B u t → H.size ≤ H1.size → (∀ q : Nat, q < H.size → ¬ A1 q → H1[q]? = H[q]?) → va_S A0 H0 H1 locs1 → W p l e R s m args below meth c H1 locs1 (cells + mc) (slots + ms) Q (F0 m (pc + 3) ls (.double r :: rest))) : W p l e R s m args below meth c H locs cells slots Q (F0 m pc ls st0) := by
  intro T hT X
  rcases hr T hT X with ⟨v, st₀, t, T', L, h0, X', hL, e1, e2, ⟨⟨r, u, hv, hp, hb⟩, hF⟩, st⟩ | ⟨q, st₀, t, T', L, E, ce, h0, X', hL, e1, e2, ⟨u, hp, hb, hF⟩, hce, hcv, hcl, st⟩
  · cases hv
    obtain ⟨k1, k2, k3⟩ := vx_keep h0 e1 hS hA hf hL hF
    obtain ⟨t2, a1, b1⟩ := kk r u t T'.heap (locs ++ L) e1.symm (by rw [← e2]; exact X'.warmed.alike) hp hb k1 k2 k3 T' rfl X'
    exact ⟨t2, st t2 a1, b1⟩
  · obtain ⟨k1, k2, k3⟩ := vx_keep h0 e1 hS hAX hf hL hF
    obtain ⟨t2, a1, b1⟩ := kx E ce q u t T'.heap (locs ++ L) e1.symm (by rw [← e2]; exact X'.warmed.alike) hp hb k1 k2 k3 (by rw [e1]; exact hce) hcv hcl T' rfl X'
    exact ⟨t2, st.trans a1, b1⟩
theorem vx_callv {S SX : Type} {post : S → Prop} {px : SX → Prop} {B : S → State → Prop} {BX : String → SX → State → Prop} {AX : Nat → Prop} (hr : vx_Run p l e R s m args below meth c H locs cells slots mc ms (F0 m pc ls st0) rest (va_Qv post B A1 a) (vx_X px BX AX) free) (hS : va_S A0 H0 H locs) (hA : ∀ q, q < H.size → A1 q → A0 q) (hf : ∀ q, free q → A0 q) (hAX : ∀ q, q < H.size → AX q → A0 q)
    (kx : ∀ (E : String) (ce : Cell) (q9 : Addr) (u : SX) (t : State) (H1 : Heap) (locs1 : List Loc), t.heap = H1 → s.vm.Alike t.vm → px u → BX E u t → H.size ≤ H1.size → (∀ q : Nat, q < H.size → ¬ AX q → H1[q]? = H[q]?) → va_S A0 H0 H1 locs1 → H1[q9]? = some ce → ce.vm = .none → s.vm.findClass E = some ce.cls → vx_W p l e R s m args below meth c H1 locs1 (cells + mc) (slots + ms) Q (F0 m pc ls rest) q9)
    (kk : ∀ (u : S) (t : State) (H1 : Heap) (locs1 : List Loc), t.heap = H1 → s.vm.Alike t.vm → post u → B u t → H.size ≤ H1.size → (∀ q : Nat, q < H.size → ¬ A1 q → H1[q]? = H[q]?) → va_S A0 H0 H1 locs1 → W p l e R s m args below meth c H1 locs1 (cells + mc) (slots + ms) Q (F0 m (pc + 3) ls (rest))) : W p l e R s m args below meth c H locs cells slots Q (F0 m pc ls st0) := by
  intro T hT X
  rcases hr T hT X with ⟨v, st₀, t, T', L, h0, X', hL, e1, e2, ⟨⟨u, hv, hp, hb⟩, hF⟩, st⟩ | ⟨q, st₀, t, T', L, E, ce, h0, X', hL, e1, e2, ⟨u, hp, hb, hF⟩, hce, hcv, hcl, st⟩
  · cases hv
    obtain ⟨k1, k2, k3⟩ := vx_keep h0 e1 hS hA hf hL hF
    obtain ⟨t2, a1, b1⟩ := kk u t T'.heap (locs ++ L) e1.symm (by rw [← e2]; exact X'.warmed.alike) hp hb k1 k2 k3 T' rfl X'
    exact ⟨t2, st t2 a1, b1⟩
  · obtain ⟨k1, k2, k3⟩ := vx_keep h0 e1 hS hAX hf hL hF
    obtain ⟨t2, a1, b1⟩ := kx E ce q u t T'.heap (locs ++ L) e1.symm (by rw [← e2]; exact X'.warmed.alike) hp hb k1 k2 k3 (by rw [e1]; exact hce) hcv hcl T' rfl X'
    exact ⟨t2, st.trans a1, b1⟩
/-- caught by the row x of this method's table; the rows ahead don't take it -/
theorem vx_catch {own name : String} {E : String} {ce : Cell} {q : Addr} (hown : s.vm.findClass own = some m.cls) (pre : List ExceptionTableEntry) (x : ExceptionTableEntry) (suf : List ExceptionTableEntry) (hsplit : c.exceptionTable.toList = pre ++ x :: suf)
    (hpass : ∀ z ∈ pre, covers z pc = false ∨ (z.catchType ≠ 0 ∧ ∃ nm : String, (Cond.classLink own z.catchType nm).before args s = true ∧ va_Nc E nm s)) (hx : covers x pc = true) (h0 : x.catchType ≠ 0)
    (hlink : (Cond.classLink own x.catchType name).before args s = true) (hcast : (Cond.castable E name).before args s = true) (hcell : H[q]? = some ce) (hv : ce.vm = .none) (hcl : s.vm.findClass E = some ce.cls)
    (kk : W p l e R s m args below meth c H locs cells slots Q (F0 m x.handlerPc ls [.ref q])) : vx_W p l e R s m args below meth c H locs cells slots Q (F0 m pc ls rest) q := by
  intro T hT X
  have hpl : e.platform.magicAccessors = ({} : Platform).magicAccessors := by rw [X.admits.platform]
  obtain ⟨c3, c4, hc3, hc4, hasg⟩ := Cond.castable_spec hcast
  cases Option.some.inj (hc3.symm.trans hcl)
  obtain ⟨c5, hc5, hcl5⟩ := Cond.classLink_spec hown hlink e.platform hpl
  cases Option.some.inj (hc4.symm.trans hc5)
  obtain ⟨vm', X', st⟩ := X.thenCaughtThrough q (g := F0 m pc ls rest) rfl (Steps.refl _) (by rw [hT]; exact hcell) (by rw [hv]; rfl) (by obtain ⟨k9, h9, -⟩ := Vm.findClass_spec hcl; exact ⟨k9, h9⟩) pre x suf hsplit
    (fun z hz => by
      rcases hpass z hz with h | ⟨hz0, nm, hl1, hn1⟩
      · exact Or.inl h
      · obtain ⟨c6, hc6, hcl6⟩ := Cond.classLink_spec hown hl1 e.platform hpl
        obtain ⟨a8, b8, h1, h2, h3⟩ := hn1
        cases Option.some.inj (h1.symm.trans hcl)
        cases Option.some.inj (h2.symm.trans hc6)
        exact Or.inr ⟨hz0, _, hcl6, h3⟩) hx (Or.inr ⟨h0, c4, hcl5, hasg⟩)
  obtain ⟨t, a1, b1⟩ := kk (T.setVm vm') hT X'
  exact ⟨t, st.trans a1, b1⟩
end Rows
section Ends
variable {p : Program} {l : Launch} {e : Env} {R : Room} {s : State} {m : MethodId} {args : Array Value} {below : List Frame} {meth : Method} {c : Code} {H : Heap} {locs : List Loc} {cells slots : Nat} {Q : State → Prop}
variable {mc ms : Nat} {free : Addr → Prop} {A0 A1 : Nat → Prop} {H0 : Heap} {a : Array Value} {ls : Array Slot} {st0 rest : List Value}
variable {Qc : Array Value → State → Outcome → State → Prop} {XC : String → State → State → Prop}
/-- what a body that may throw owes at its end -/
def vx_MQ (below : List Frame) (Qc : Array Value → State → Outcome → State → Prop) (XC : String → State → State → Prop) (a : Array Value) (s : State) (mc ms : Nat) (free : Addr → Prop) : State → Prop := fun t =>
  ∃ o, t.status = .running ∧ Ended t below o ∧ vx_Q Qc XC mc ms free a s o t
theorem vx_ret {g : JFrame} {mc ms : Nat} (k : W p l e R s m args below meth c H locs cells slots (MQ below Qc args s mc ms free) g) : W p l e R s m args below meth c H locs cells slots (vx_MQ below Qc XC args s mc ms free) g := by
  intro T hT X
  obtain ⟨t, a1, o, b1, b2, b3, b4⟩ := k T hT X
  exact ⟨t, a1, o, b1, b2, Or.inl ⟨b3, b4⟩⟩
/-- not caught here: it goes on to the caller -/
theorem vx_widen {g : JFrame} {q : Addr} {k n : Nat} (h1 : cells ≤ k) (h2 : slots ≤ n) (kk : vx_W p l e R s m args below meth c H locs k n Q g q) : vx_W p l e R s m args below meth c H locs cells slots Q g q := fun T hT X => kk T hT (stand_widen X h1 h2)
theorem vx_out {pc : Nat} {E : String} {ce : Cell} {q : Addr} {mc ms : Nat} (hout : ∀ x ∈ c.exceptionTable.toList, covers x pc = false) (hlocks : meth.locks = false) (hcell : H[q]? = some ce) (hv : ce.vm = .none) (hcl : s.vm.findClass E = some ce.cls)
    (hx : ∀ t : State, t.heap = H → s.vm.Alike t.vm → XC E s t) (hf : ∀ z ∈ locs, free z.base) (hc : cells ≤ mc) (hs : slots ≤ ms) :
    vx_W p l e R s m args below meth c H locs cells slots (vx_MQ below Qc XC args s mc ms free) (F0 m pc ls rest) q := by
  intro T hT X
  obtain ⟨st1, hrun, hend, hW, hsm⟩ := X.leaveThrown q (g := F0 m pc ls rest) rfl rfl rfl hout hlocks
  have hcell9 : (T.setFrames (.throwing q :: below)).heap[q]? = some ce := by
    show T.heap[q]? = some ce
    rw [hT]; exact hcell
  exact ⟨_, st1, .threw q, hrun, hend, Or.inr ⟨q, rfl, E, ce, locs, hx _ hT hW.alike, hcell9, hv, hcl, hW, hsm.mono hc hs, hf⟩⟩
theorem vx_frame {U : State} {k n : Nat} (h : s.sameButNew ({ U with vm := s.vm } : State) locs k n) : s.heap.size ≤ U.heap.size ∧ ∀ q : Nat, q < s.heap.size → (∀ z ∈ locs, z.base ≠ q) → U.heap[q]? = s.heap[q]? := by
  obtain ⟨-, h2, -, -, -, h6⟩ := h
  refine ⟨h2, fun q hq hz => ?_⟩
  obtain ⟨c9, e1, e2, e3, e4⟩ := h6 q _ (Array.getElem?_eq_getElem hq)
  have hs : c9.slots = (s.heap[q]).slots := Array.ext_getElem? fun i => e4 i fun hm => hz _ hm rfl
  have h9 : c9 = s.heap[q] := by
    rw [hs] at e2
    exact e2
  have e5 : U.heap[q]? = some c9 := e1
  rw [e5, h9, Array.getElem?_eq_getElem hq]
/-- the words of a throw but the four that speak of the heap -/
def vx_no (w : Cond) : Bool := decide (w ≠ .isRef (.static Bundle.tN "UNASSIGNED_STACK" Bundle.steD)) && decide (w ≠ .isRef (.static Bundle.tN "SUPPRESSED_SENTINEL" Bundle.listD)) && decide (w ≠ .laysStatic Bundle.tN "UNASSIGNED_STACK" Bundle.steD) && decide (w ≠ .laysStatic Bundle.tN "SUPPRESSED_SENTINEL" Bundle.listD)
def vx_at0 (own : String) (ic : Nat) (X : String) (names : List String) : List Cond := (Bundle.ownAtoms0 own ic X names).filter vx_no
def vx_atS (own : String) (ic : Nat) (X : String) (names : List String) : List Cond := (Bundle.ownAtoms own ic X names).filter vx_no
/-- a word that the tables alone decide, or a good one -/
def vx_ot (w : Cond) : Bool := w.onTables || goodWord w
theorem vx_ot_at {args a' : Array Value} {s U : State} {w : Cond} (hW : s.WarmedH U.vm) (hvm : s.vm = U.vm) (hg : vx_ot w = true) (h : w.before args s = true) : w.before a' U = true := by
  simp only [vx_ot, Bool.or_eq_true] at hg
  rcases hg with hg | hg
  · exact va_tabs hg hvm h
  · exact word_at hW (good_of_word hg) h
/-- a list's words: the good ones out of the method's own list, the others by premises of their own -/
theorem vx_hat {args : Array Value} {s : State} {L B : List Cond} (h1 : ∀ w ∈ L.filter goodWord, w.before args s = true) (h2 : ∀ w ∈ L.filter (fun w => !goodWord w), w ∈ B) (h3 : ∀ w ∈ B, w.before args s = true) : ∀ w ∈ L, w.before args s = true := by
  intro w hw
  by_cases g : goodWord w = true
  · exact h1 w (List.mem_filter.mpr ⟨hw, g⟩)
  · refine h3 w (h2 w (List.mem_filter.mpr ⟨hw, ?_⟩))
    show (!goodWord w) = true
    cases hgw : goodWord w
    · rfl
    · exact absurd hgw g
theorem vx_c {args : Array Value} {s : State} {w : Cond} {B : List Cond} (h : w.before args s = true) (t : ∀ w ∈ B, w.before args s = true) : ∀ w' ∈ w :: B, w'.before args s = true := fun w' h' => (List.mem_cons.mp h').elim (fun e => by rw [e]; exact h) (t w')
theorem vx_n {args : Array Value} {s : State} : ∀ w ∈ ([] : List Cond), w.before args s = true := fun _ h => nomatch h
theorem vx_own {args : Array Value} {s : State} {L : List Cond} (h1 : ∀ w ∈ L.filter vx_no, w.before args s = true)
    (hU : (Cond.isRef (.static Bundle.tN "UNASSIGNED_STACK" Bundle.steD)).before args s = true) (hN : (Cond.isRef (.static Bundle.tN "SUPPRESSED_SENTINEL" Bundle.listD)).before args s = true)
    (lU : (Cond.laysStatic Bundle.tN "UNASSIGNED_STACK" Bundle.steD).before args s = true) (lN : (Cond.laysStatic Bundle.tN "SUPPRESSED_SENTINEL" Bundle.listD).before args s = true) : ∀ w ∈ L, w.before args s = true := by
  intro w hw
  by_cases e1 : w = .isRef (.static Bundle.tN "UNASSIGNED_STACK" Bundle.steD)
  · rw [e1]; exact hU
  · by_cases e2 : w = .isRef (.static Bundle.tN "SUPPRESSED_SENTINEL" Bundle.listD)
    · rw [e2]; exact hN
    · by_cases e3 : w = .laysStatic Bundle.tN "UNASSIGNED_STACK" Bundle.steD
      · rw [e3]; exact lU
      · by_cases e4 : w = .laysStatic Bundle.tN "SUPPRESSED_SENTINEL" Bundle.listD
        · rw [e4]; exact lN
        · exact h1 w (List.mem_filter.mpr ⟨hw, by unfold vx_no; rw [decide_eq_true e1, decide_eq_true e2, decide_eq_true e3, decide_eq_true e4]; rfl⟩)
/-- where a static field lies, its class's statics cell in H -/
def vx_L (C n d : String) (A : Nat → Prop) (U : State) (H : Heap) : Prop := ∃ (c : ClassId) (k : Class) (i : Nat) (f : Field) (a : Nat) (cell : Cell), U.vm.findClass C = some c ∧ U.fieldFound? C n d = some (c, k, i, f) ∧ f.isStatic = true ∧ k.statics = some a ∧ H[a]? = some cell ∧ cell.vm.isStatics = true ∧ cell.cls = c ∧ f.slot < cell.slots.size ∧ k.staticTypes[f.slot]? = some f.type ∧ ¬ A a
theorem vx_L.moved {C n d : String} {A : Nat → Prop} {u U : State} {H : Heap} (hvm : u.vm.Alike U.vm) (h : vx_L C n d A u H) : vx_L C n d A U H := by
  obtain ⟨c, k, i, f, a, cell, h1, h2, h3, h4, h5, h6, h7, h8, h9, h10⟩ := h
  obtain ⟨k', hi', he⟩ := State.fieldFound?_setVm hvm h2
  exact ⟨c, k', i, f, a, cell, by rw [hvm.findClass]; exact h1, hi', h3, by rw [he]; exact h4, h5, h6, h7, h8, by rw [he]; exact h9, h10⟩
theorem vx_L.kept {C n d : String} {A : Nat → Prop} {U : State} {H H1 : Heap} (h : vx_L C n d A U H) (hq : ∀ a : Nat, a < H.size → ¬ A a → H1[a]? = H[a]?) : vx_L C n d A U H1 := by
  obtain ⟨c, k, i, f, a, cell, h1, h2, h3, h4, h5, h6, h7, h8, h9, h10⟩ := h
  exact ⟨c, k, i, f, a, cell, h1, h2, h3, h4, by rw [hq a (Array.getElem?_eq_some_iff.mp h5).1 h10]; exact h5, h6, h7, h8, h9, h10⟩
theorem vx_L.narrow {C n d : String} {A B : Nat → Prop} {U : State} {H : Heap} (h : vx_L C n d A U H) (hAB : ∀ q, B q → A q) : vx_L C n d B U H := by
  obtain ⟨c, k, i, f, a, cell, h1, h2, h3, h4, h5, h6, h7, h8, h9, h10⟩ := h
  exact ⟨c, k, i, f, a, cell, h1, h2, h3, h4, h5, h6, h7, h8, h9, fun z => h10 (hAB _ z)⟩
theorem vx_L.word {C n d : String} {A : Nat → Prop} {s : State} {args : Array Value} (h : vx_L C n d A s s.heap) : (Cond.laysStatic C n d).before args s = true := by
  obtain ⟨c, k, i, f, a, cell, h1, h2, h3, h4, h5, h6, h7, h8, h9, -⟩ := h
  show (Cond.laysStatic C n d).holds args s none s [] = true
  exact Cond.laysStatic_of h1 h2 h3 h4 h5 h6 h7 h8 h9
/-- .. and what it holds: null or some reference -/
def vx_Zq (C n d : String) (A : Nat → Prop) (U : State) (H : Heap) : Prop := va_Zq C n d A U H ∧ vx_L C n d A U H
theorem vx_Zq.moved {C n d : String} {A : Nat → Prop} {u U : State} {H : Heap} (hvm : u.vm.Alike U.vm) (h : vx_Zq C n d A u H) : vx_Zq C n d A U H := ⟨va_Zq.moved hvm h.1, vx_L.moved hvm h.2⟩
theorem vx_Zq.kept {C n d : String} {A : Nat → Prop} {U : State} {H H1 : Heap} (h : vx_Zq C n d A U H) (hq : ∀ a : Nat, a < H.size → ¬ A a → H1[a]? = H[a]?) : vx_Zq C n d A U H1 := ⟨va_Zq.kept h.1 hq, vx_L.kept h.2 hq⟩
theorem vx_Zq.narrow {C n d : String} {A B : Nat → Prop} {U : State} {H : Heap} (h : vx_Zq C n d A U H) (hAB : ∀ q, B q → A q) : vx_Zq C n d B U H := ⟨va_Zq.narrow h.1 hAB, vx_L.narrow h.2 hAB⟩
theorem vx_Zqof {args : Array Value} {s : State} {C n d : String} {A : Nat → Prop} (hl : (Cond.laysStatic C n d).before args s = true) (hini : (Cond.initialized C).before args s = true) (h : (Cond.isRef (.static C n d)).before args s = true) (hA : ∀ a : Nat, a < s.heap.size → ¬ A a) : vx_Zq C n d A s s.heap := by
  refine ⟨va_Zqof hl hini h hA, ?_⟩
  obtain ⟨c, k, i, f, a, cell, h1, h2, h3, h4, h5, h6, h7, h8, h9⟩ := Cond.laysStatic_spec hl
  exact ⟨c, k, i, f, a, cell, h1, h2, h3, h4, h5, h6, h7, h8, h9, hA a (Array.getElem?_eq_some_iff.mp h5).1⟩
theorem vx_isRef {C n d : String} {v : Value} {A : Nat → Prop} {s : State} {args : Array Value} (h : va_Z C n d v A s s.heap) (hv : v.isRef = true) : (Cond.isRef (.static C n d)).before args s = true := by
  obtain ⟨cf, kf, fi, f, a, cell, h1, h2, h3, h4, h5, h6, h7, -⟩ := h
  have he : (Term.static C n d).eval args s none [] s = some v := by
    simp [Term.eval, State.fieldNamed?, h1, h2, h4, h5, h6, h7]
  simp only [Cond.before, Cond.holds, Cond.value, he]
  cases v <;> simp_all [Value.isRef]
theorem vx_isRefq {C n d : String} {A : Nat → Prop} {s : State} {args : Array Value} (h : va_Zq C n d A s s.heap) : (Cond.isRef (.static C n d)).before args s = true := by
  rcases h with h | ⟨t, h⟩
  · exact vx_isRef h rfl
  · exact vx_isRef h rfl
/-- the same frame, seen from here: as if the method were called anew in this heap -/
theorem vx_rebase {T : State} (X : Stand p l e R s m args below meth c T locs cells slots) {R' : Room} (hf : R'.frames ≤ R.frames) (hl : R'.locals ≤ R.locals) (hc : cells + R'.cells ≤ R.cells) (hs : slots + R'.slots ≤ R.slots) :
    Stand p l e R' ((T.setVm s.vm).setFrames (.invoking m args :: below)) m args below meth c T [] 0 0 := by
  have htop : (T.setVm s.vm).topJava?.isSome := X.here.top
  have hF : ((T.setVm s.vm).setFrames (.invoking m args :: below)).frames = .invoking m args :: below := State.frames_setFrames _ (State.cur_lt_of_top htop)
  obtain ⟨g₀, hg0⟩ := Option.isSome_iff_exists.mp htop
  obtain ⟨r, hr⟩ := State.topJava?_eq_some.mp hg0
  have hl9 : e.platform.stackLimits (T.setVm s.vm).me = e.platform.stackLimits s.me := X.limits
  have hb9 : (T.setVm s.vm).me.stackBytes = s.me.stackBytes := X.bytes
  refine ⟨X.admits, X.cas, X.clock, hF, ?_, X.hears, X.method, X.code, X.here, X.tail, X.warmed, ?_, ?_, ?_⟩
  · have h := X.room
    have hU : ((T.setVm s.vm).setFrames (.invoking m args :: below)).localsInUse = s.localsInUse := by
      rw [State.localsInUse_invoking hF (meth := meth) (c := c) X.method X.code, State.localsInUse_invoking X.frames X.method X.code]
    simp only [State.hasRoom, Bool.and_eq_true, decide_eq_true_eq] at h ⊢
    obtain ⟨⟨⟨⟨h1, h2, h3, h4, h5, h6⟩, h7⟩, h8⟩, h9⟩ := h
    rw [X.frames, List.length_cons] at h2 h3
    have q1 := X.heapSize
    have q2 := X.used
    simp only [hF, hU, List.length_cons, State.stackLimits_setFrames, State.stackBytes_setFrames, hl9, hb9]
    refine ⟨⟨⟨⟨by omega, by omega, by omega, by omega, by omega, h6⟩, ?_⟩, ?_⟩, X.book⟩
    · show T.heap.size + R'.cells ≤ e.platform.maxCells
      omega
    · show T.slotsUsed + R'.slots ≤ e.platform.maxSlots
      omega
  · rw [State.stackLimits_setFrames]; rfl
  · rw [State.stackBytes_setFrames]; rfl
  · refine ⟨?_, Nat.le_refl _, Nat.le_refl _, ?_, ?_, fun a c9 h9 => ⟨c9, h9, rfl, rfl, fun _ _ => rfl⟩⟩
    · obtain ⟨t, ht, -⟩ := State.frames_cons hr
      show T.setVm s.vm = { ((T.setVm s.vm).setFrames (.invoking m args :: below)).setFrames (T.setVm s.vm).frames with heap := T.heap, slotsUsed := T.slotsUsed }
      rw [State.setFrames_setFrames, State.setFrames_self ht]
      rfl
    · show T.slotsUsed = T.slotsUsed + ((T.heap.toList.drop T.heap.size).map (·.slots.size)).sum
      rw [List.drop_eq_nil_of_le (Nat.le_of_eq Array.length_toList)]
      rfl
    · show ((T.heap.toList.drop T.heap.size).map (·.slots.size)).sum ≤ 0
      rw [List.drop_eq_nil_of_le (Nat.le_of_eq Array.length_toList)]
      exact Nat.le_refl _
/-- 'throw new E()': new; dup; invokespecial; athrow -/
theorem vx_throw0 {cc : ByteArray} {pc : Nat} (hexec : p.tables.exec = Jvm.exec) (hb : c.code = cc) (hl : l.stackTraces = false) {own cls : String} {names : List String} {ik ic mc ms : Nat} {A : Nat → Prop}
    (hown : s.vm.findClass own = some m.cls) (hcls : Bundle.fit cls = true) (hnames : ∀ n ∈ names, Bundle.fit n = true)
    (hk : (Cond.classLink own ik cls).before args s = true) (hini : (Cond.initialized cls).before args s = true) (hat : ∀ w ∈ vx_at0 own ic cls names, w.before args s = true)
    (hgood : ∀ w ∈ Cond.classLink own ik cls :: Cond.initialized cls :: vx_at0 own ic cls names, vx_ot w = true)
    (hU : vx_Zq Bundle.tN "UNASSIGNED_STACK" Bundle.steD A s s.heap) (hN : vx_Zq Bundle.tN "SUPPRESSED_SENTINEL" Bundle.listD A s s.heap) (hS : va_S A s.heap H locs) (hsize : ls.size = c.maxLocals)
    (d0 : decode cc pc = .ok (.new ik, 3)) (d3 : decode cc (pc + 3) = .ok (.dup, 1)) (d4 : decode cc (pc + 4) = .ok (.invokespecial ic, 3)) (d7 : decode cc (pc + 7) = .ok (.athrow, 1))
    (hout : ∀ x ∈ c.exceptionTable.toList, covers x (pc + 7) = false)
    (hRframes : names.length + 3 < R.frames) (hRlocals : (rest.map fun v => v.category).sum + (13 * (names.length + 1) + 42) ≤ R.locals) (hRcells : cells + 1 ≤ R.cells) (hRslots : slots + 6 ≤ R.slots) (hlocks : meth.locks = false)
    (hx : ∀ t : State, s.vm.Alike t.vm → H.size ≤ t.heap.size → (∀ q : Nat, q < H.size → t.heap[q]? = H[q]?) → XC cls s t)
    (hf : ∀ z ∈ locs, free z.base) (hc : cells + 1 ≤ mc) (hs : slots + 6 ≤ ms) :
    W p l e R s m args below meth c H locs cells slots (vx_MQ below Qc XC args s mc ms free) (F0 m pc ls rest) := by
  intro T hT X
  have htr : e.platform.stackTraces = false := (show e.platform.stackTraces = l.stackTraces by rw [X.admits.platform]).trans hl
  have Y := vx_rebase X (R' := { frames := R.frames, locals := R.locals, cells := 1, slots := 6 }) (Nat.le_refl _) (Nat.le_refl _) hRcells hRslots
  obtain ⟨s', hA⟩ : ∃ z, z = (T.setVm s.vm).setFrames (.invoking m args :: below) := ⟨_, rfl⟩
  rw [← hA] at Y
  have hvm : s'.vm = s.vm := by rw [hA]; rfl
  have hhp : s'.heap = H := by rw [hA]; exact hT
  have hW0 : s.WarmedH s'.vm := by rw [hvm]; exact State.WarmedH.refl s
  have hat' : ∀ w ∈ vx_at0 own ic cls names, w.before args s' = true := fun w hw => vx_ot_at hW0 hvm.symm (hgood w (List.mem_cons_of_mem _ (List.mem_cons_of_mem _ hw))) (hat w hw)
  have hk' : (Cond.classLink own ik cls).before args s' = true := vx_ot_at hW0 hvm.symm (hgood _ List.mem_cons_self) hk
  have hini' : (Cond.initialized cls).before args s' = true := vx_ot_at hW0 hvm.symm (hgood _ (List.mem_cons_of_mem _ List.mem_cons_self)) hini
  have hU' : vx_Zq Bundle.tN "UNASSIGNED_STACK" Bundle.steD A s' s'.heap := by rw [hhp]; exact vx_Zq.moved hW0.alike (hU.kept hS.2.1)
  have hN' : vx_Zq Bundle.tN "SUPPRESSED_SENTINEL" Bundle.listD A s' s'.heap := by rw [hhp]; exact vx_Zq.moved hW0.alike (hN.kept hS.2.1)
  have h : ∀ w ∈ Bundle.ownAtoms0 own ic cls names, w.before args s' = true := vx_own hat' (vx_isRefq hU'.1) (vx_isRefq hN'.1) hU'.2.word hN'.2.word
  have hown' : s'.vm.findClass own = some m.cls := by rw [hvm]; exact hown
  have hins : (Cond.instantiable cls 6).before args s' = true := h _ (by simp [Bundle.ownAtoms0])
  obtain ⟨vm₁, cX, kX, hfX, hkX, -, -, X₁, st1⟩ := Y.newCold hexec (own := own) (C := cls) (index := ik) (n := 6) hown' hk' hins hini'
    (g := F0 m pc ls rest) rfl (by rw [hb]; exact d0) (Nat.le_refl _) (Nat.le_refl _)
  generalize hT1 : (T.setVm vm₁).pushCell { cls := cX, slots := kX.instanceTypes.map defaultValue, vm := .none } = T1 at X₁ st1
  have hcat : (Value.ref T.heap.size).category = 1 := rfl
  have hcellA : T1.heap[T.heap.size]? = some (freshCell cX kX) := by rw [← hT1]; exact State.heap_pushCell_size _ _
  have d3' : decode c.code (pc + 3) = .ok (.dup, 1) := by rw [hb]; exact d3
  obtain ⟨U, hsteps, hrun, hend, hW, hsame, ce, hce, hO⟩ := X₁.ctorThrow0 hexec htr (own := own) (cls := cls) (names := names) (ic := ic) hown' hcls hnames h (fun x hx => nomatch hx) hfX hkX hcellA (by rw [hhp, hT]; exact Nat.le_refl _)
    (g := { method := m, pc := pc + 4, locals := ls, stack := .ref T.heap.size :: .ref T.heap.size :: rest, locked := none }) rfl hsize rfl rfl (rest := rest) rfl
    (by rw [hb]; exact d4) (by rw [hb]; exact d7) hout hRframes (by simp only [List.map_cons, List.sum_cons, hcat]; omega) hlocks
  obtain ⟨f1, f2⟩ := vx_frame hsame
  rw [hhp] at f1 f2
  have hWs : s.WarmedH U.vm := State.WarmedH.trans hW0 hW
  have hcl : s.vm.findClass cls = some ce.cls := by
    have h9 := hO.cls
    rw [hvm] at h9
    exact h9
  have hall : s.sameButNew ({ U with vm := s.vm } : State) locs mc ms := by
    subst hA
    obtain ⟨e1, e2⟩ := hsame
    rw [State.setFrames_setFrames] at e1
    have h2 : (T.setVm s.vm).sameButNew ({ U with vm := s.vm } : State) [] (0 + 1) (0 + 6) := ⟨e1, e2⟩
    have h3 := X.same.trans h2
    rw [List.append_nil] at h3
    exact h3.mono hc hs
  refine ⟨U, ?_, .threw T.heap.size, hrun, hend, Or.inr ⟨T.heap.size, rfl, cls, ce, locs, hx U hWs.alike f1 (fun q hq => f2 q hq (fun z hz => nomatch hz)), hce, hO.vm, hcl, hWs, hall, hf⟩⟩
  refine st1 _ ?_
  show Steps p.tables e below (T1.setTop { method := m, pc := pc + 3, locals := ls, stack := .ref T.heap.size :: rest, locked := none }) _
  jvm_step X₁.here [X₁.here.top, hexec, d3', Value.category]
  exact hsteps
/-- 'throw new E("text")': new; dup; ldc; invokespecial; athrow -/
theorem vx_throwS {cc : ByteArray} {pc : Nat} (hexec : p.tables.exec = Jvm.exec) (hb : c.code = cc) (hl : l.stackTraces = false) {own cls text : String} {names : List String} {ik is ic mc ms sa : Nat} {A : Nat → Prop}
    (hown : s.vm.findClass own = some m.cls) (hcls : Bundle.fit cls = true) (hnames : ∀ n ∈ names, Bundle.fit n = true)
    (hk : (Cond.classLink own ik cls).before args s = true) (hini : (Cond.initialized cls).before args s = true) (hstr : vk_R own is text sa s) (hat : ∀ w ∈ vx_atS own ic cls names, w.before args s = true)
    (hgood : ∀ w ∈ Cond.classLink own ik cls :: Cond.initialized cls :: vx_atS own ic cls names, vx_ot w = true)
    (hU : vx_Zq Bundle.tN "UNASSIGNED_STACK" Bundle.steD A s s.heap) (hN : vx_Zq Bundle.tN "SUPPRESSED_SENTINEL" Bundle.listD A s s.heap) (hS : va_S A s.heap H locs) (hsize : ls.size = c.maxLocals)
    (d0 : decode cc pc = .ok (.new ik, 3)) (d3 : decode cc (pc + 3) = .ok (.dup, 1)) (d4 : decode cc (pc + 4) = .ok (.ldc is, 2)) (d6 : decode cc (pc + 6) = .ok (.invokespecial ic, 3)) (d9 : decode cc (pc + 9) = .ok (.athrow, 1))
    (hout : ∀ x ∈ c.exceptionTable.toList, covers x (pc + 9) = false)
    (hRframes : names.length + 3 < R.frames) (hRlocals : (rest.map fun v => v.category).sum + (13 * (names.length + 1) + 43) ≤ R.locals) (hRcells : cells + 1 ≤ R.cells) (hRslots : slots + 6 ≤ R.slots) (hlocks : meth.locks = false)
    (hx : ∀ t : State, s.vm.Alike t.vm → H.size ≤ t.heap.size → (∀ q : Nat, q < H.size → t.heap[q]? = H[q]?) → XC cls s t)
    (hf : ∀ z ∈ locs, free z.base) (hc : cells + 1 ≤ mc) (hs : slots + 6 ≤ ms) :
    W p l e R s m args below meth c H locs cells slots (vx_MQ below Qc XC args s mc ms free) (F0 m pc ls rest) := by
  intro T hT X
  have htr : e.platform.stackTraces = false := (show e.platform.stackTraces = l.stackTraces by rw [X.admits.platform]).trans hl
  have Y := vx_rebase X (R' := { frames := R.frames, locals := R.locals, cells := 1, slots := 6 }) (Nat.le_refl _) (Nat.le_refl _) hRcells hRslots
  obtain ⟨s', hA⟩ : ∃ z, z = (T.setVm s.vm).setFrames (.invoking m args :: below) := ⟨_, rfl⟩
  rw [← hA] at Y
  have hvm : s'.vm = s.vm := by rw [hA]; rfl
  have hhp : s'.heap = H := by rw [hA]; exact hT
  have hW0 : s.WarmedH s'.vm := by rw [hvm]; exact State.WarmedH.refl s
  have hat' : ∀ w ∈ vx_atS own ic cls names, w.before args s' = true := fun w hw => vx_ot_at hW0 hvm.symm (hgood w (List.mem_cons_of_mem _ (List.mem_cons_of_mem _ hw))) (hat w hw)
  have hk' : (Cond.classLink own ik cls).before args s' = true := vx_ot_at hW0 hvm.symm (hgood _ List.mem_cons_self) hk
  have hini' : (Cond.initialized cls).before args s' = true := vx_ot_at hW0 hvm.symm (hgood _ (List.mem_cons_of_mem _ List.mem_cons_self)) hini
  have hU' : vx_Zq Bundle.tN "UNASSIGNED_STACK" Bundle.steD A s' s'.heap := by rw [hhp]; exact vx_Zq.moved hW0.alike (hU.kept hS.2.1)
  have hN' : vx_Zq Bundle.tN "SUPPRESSED_SENTINEL" Bundle.listD A s' s'.heap := by rw [hhp]; exact vx_Zq.moved hW0.alike (hN.kept hS.2.1)
  have h : ∀ w ∈ Bundle.ownAtoms own ic cls names, w.before args s' = true := vx_own hat' (vx_isRefq hU'.1) (vx_isRefq hN'.1) hU'.2.word hN'.2.word
  have hown' : s'.vm.findClass own = some m.cls := by rw [hvm]; exact hown
  have hins : (Cond.instantiable cls 6).before args s' = true := h _ (by simp [Bundle.ownAtoms])
  obtain ⟨vm₁, cX, kX, hfX, hkX, -, -, X₁, st1⟩ := Y.newCold hexec (own := own) (C := cls) (index := ik) (n := 6) hown' hk' hins hini'
    (g := F0 m pc ls rest) rfl (by rw [hb]; exact d0) (Nat.le_refl _) (Nat.le_refl _)
  generalize hT1 : (T.setVm vm₁).pushCell { cls := cX, slots := kX.instanceTypes.map defaultValue, vm := .none } = T1 at X₁ st1
  have hcat : (Value.ref T.heap.size).category = 1 := rfl
  have hcellA : T1.heap[T.heap.size]? = some (freshCell cX kX) := by rw [← hT1]; exact State.heap_pushCell_size _ _
  have d3' : decode c.code (pc + 3) = .ok (.dup, 1) := by rw [hb]; exact d3
  have d4' : decode c.code (pc + 4) = .ok (.ldc is, 2) := by rw [hb]; exact d4
  have hstr' : vk_R own is text sa s' := vk_R.warm hW0 hstr
  obtain ⟨U, hsteps, hrun, hend, hW, hsame, ce, hce, hO⟩ := X₁.ctorThrowS hexec htr (own := own) (cls := cls) (names := names) (ic := ic) hown' hcls hnames h (fun x hx => nomatch hx) hfX hkX hcellA (by rw [hhp, hT]; exact Nat.le_refl _) (msg := .ref sa) rfl
    (g := { method := m, pc := pc + 6, locals := ls, stack := .ref sa :: .ref T.heap.size :: .ref T.heap.size :: rest, locked := none }) rfl hsize rfl rfl (rest := rest) rfl
    (by rw [hb]; exact d6) (by rw [hb]; exact d9) hout hRframes (by simp only [List.map_cons, List.sum_cons, hcat]; omega) hlocks
  obtain ⟨f1, f2⟩ := vx_frame hsame
  rw [hhp] at f1 f2
  have hWs : s.WarmedH U.vm := State.WarmedH.trans hW0 hW
  have hcl : s.vm.findClass cls = some ce.cls := by
    have h9 := hO.cls
    rw [hvm] at h9
    exact h9
  have hall : s.sameButNew ({ U with vm := s.vm } : State) locs mc ms := by
    subst hA
    obtain ⟨e1, e2⟩ := hsame
    rw [State.setFrames_setFrames] at e1
    have h2 : (T.setVm s.vm).sameButNew ({ U with vm := s.vm } : State) [] (0 + 1) (0 + 6) := ⟨e1, e2⟩
    have h3 := X.same.trans h2
    rw [List.append_nil] at h3
    exact h3.mono hc hs
  refine ⟨U, ?_, .threw T.heap.size, hrun, hend, Or.inr ⟨T.heap.size, rfl, cls, ce, locs, hx U hWs.alike f1 (fun q hq => f2 q hq (fun z hz => nomatch hz)), hce, hO.vm, hcl, hWs, hall, hf⟩⟩
  refine st1 _ ?_
  show Steps p.tables e below (T1.setTop { method := m, pc := pc + 3, locals := ls, stack := .ref T.heap.size :: rest, locked := none }) _
  jvm_step X₁.here [X₁.here.top, hexec, d3', Value.category]
  exact X₁.ldcString hexec (own := own) (text := text) (index := is) (a := sa) hown' hstr'.1 hstr'.2
    (g := { method := m, pc := pc + 4, locals := ls, stack := .ref T.heap.size :: .ref T.heap.size :: rest, locked := none }) rfl d4' _ hsteps
/-- 'throw new E("text")', the text by a wide index -/
theorem vx_throwSW {cc : ByteArray} {pc : Nat} (hexec : p.tables.exec = Jvm.exec) (hb : c.code = cc) (hl : l.stackTraces = false) {own cls text : String} {names : List String} {ik is ic mc ms sa : Nat} {A : Nat → Prop}
    (hown : s.vm.findClass own = some m.cls) (hcls : Bundle.fit cls = true) (hnames : ∀ n ∈ names, Bundle.fit n = true)
    (hk : (Cond.classLink own ik cls).before args s = true) (hini : (Cond.initialized cls).before args s = true) (hstr : vk_R own is text sa s) (hat : ∀ w ∈ vx_atS own ic cls names, w.before args s = true)
    (hgood : ∀ w ∈ Cond.classLink own ik cls :: Cond.initialized cls :: vx_atS own ic cls names, vx_ot w = true)
    (hU : vx_Zq Bundle.tN "UNASSIGNED_STACK" Bundle.steD A s s.heap) (hN : vx_Zq Bundle.tN "SUPPRESSED_SENTINEL" Bundle.listD A s s.heap) (hS : va_S A s.heap H locs) (hsize : ls.size = c.maxLocals)
    (d0 : decode cc pc = .ok (.new ik, 3)) (d3 : decode cc (pc + 3) = .ok (.dup, 1)) (d4 : decode cc (pc + 4) = .ok (.ldc_w is, 3)) (d7 : decode cc (pc + 7) = .ok (.invokespecial ic, 3)) (d10 : decode cc (pc + 10) = .ok (.athrow, 1))
    (hout : ∀ x ∈ c.exceptionTable.toList, covers x (pc + 10) = false)
    (hRframes : names.length + 3 < R.frames) (hRlocals : (rest.map fun v => v.category).sum + (13 * (names.length + 1) + 43) ≤ R.locals) (hRcells : cells + 1 ≤ R.cells) (hRslots : slots + 6 ≤ R.slots) (hlocks : meth.locks = false)
    (hx : ∀ t : State, s.vm.Alike t.vm → H.size ≤ t.heap.size → (∀ q : Nat, q < H.size → t.heap[q]? = H[q]?) → XC cls s t)
    (hf : ∀ z ∈ locs, free z.base) (hc : cells + 1 ≤ mc) (hs : slots + 6 ≤ ms) :
    W p l e R s m args below meth c H locs cells slots (vx_MQ below Qc XC args s mc ms free) (F0 m pc ls rest) := by
  intro T hT X
  have htr : e.platform.stackTraces = false := (show e.platform.stackTraces = l.stackTraces by rw [X.admits.platform]).trans hl
  have Y := vx_rebase X (R' := { frames := R.frames, locals := R.locals, cells := 1, slots := 6 }) (Nat.le_refl _) (Nat.le_refl _) hRcells hRslots
  obtain ⟨s', hA⟩ : ∃ z, z = (T.setVm s.vm).setFrames (.invoking m args :: below) := ⟨_, rfl⟩
  rw [← hA] at Y
  have hvm : s'.vm = s.vm := by rw [hA]; rfl
  have hhp : s'.heap = H := by rw [hA]; exact hT
  have hW0 : s.WarmedH s'.vm := by rw [hvm]; exact State.WarmedH.refl s
  have hat' : ∀ w ∈ vx_atS own ic cls names, w.before args s' = true := fun w hw => vx_ot_at hW0 hvm.symm (hgood w (List.mem_cons_of_mem _ (List.mem_cons_of_mem _ hw))) (hat w hw)
  have hk' : (Cond.classLink own ik cls).before args s' = true := vx_ot_at hW0 hvm.symm (hgood _ List.mem_cons_self) hk
  have hini' : (Cond.initialized cls).before args s' = true := vx_ot_at hW0 hvm.symm (hgood _ (List.mem_cons_of_mem _ List.mem_cons_self)) hini
  have hU' : vx_Zq Bundle.tN "UNASSIGNED_STACK" Bundle.steD A s' s'.heap := by rw [hhp]; exact vx_Zq.moved hW0.alike (hU.kept hS.2.1)
  have hN' : vx_Zq Bundle.tN "SUPPRESSED_SENTINEL" Bundle.listD A s' s'.heap := by rw [hhp]; exact vx_Zq.moved hW0.alike (hN.kept hS.2.1)
  have h : ∀ w ∈ Bundle.ownAtoms own ic cls names, w.before args s' = true := vx_own hat' (vx_isRefq hU'.1) (vx_isRefq hN'.1) hU'.2.word hN'.2.word
  have hown' : s'.vm.findClass own = some m.cls := by rw [hvm]; exact hown
  have hins : (Cond.instantiable cls 6).before args s' = true := h _ (by simp [Bundle.ownAtoms])
  obtain ⟨vm₁, cX, kX, hfX, hkX, -, -, X₁, st1⟩ := Y.newCold hexec (own := own) (C := cls) (index := ik) (n := 6) hown' hk' hins hini'
    (g := F0 m pc ls rest) rfl (by rw [hb]; exact d0) (Nat.le_refl _) (Nat.le_refl _)
  generalize hT1 : (T.setVm vm₁).pushCell { cls := cX, slots := kX.instanceTypes.map defaultValue, vm := .none } = T1 at X₁ st1
  have hcat : (Value.ref T.heap.size).category = 1 := rfl
  have hcellA : T1.heap[T.heap.size]? = some (freshCell cX kX) := by rw [← hT1]; exact State.heap_pushCell_size _ _
  have d3' : decode c.code (pc + 3) = .ok (.dup, 1) := by rw [hb]; exact d3
  have d4' : decode c.code (pc + 4) = .ok (.ldc_w is, 3) := by rw [hb]; exact d4
  have hstr' : vk_R own is text sa s' := vk_R.warm hW0 hstr
  obtain ⟨U, hsteps, hrun, hend, hW, hsame, ce, hce, hO⟩ := X₁.ctorThrowS hexec htr (own := own) (cls := cls) (names := names) (ic := ic) hown' hcls hnames h (fun x hx => nomatch hx) hfX hkX hcellA (by rw [hhp, hT]; exact Nat.le_refl _) (msg := .ref sa) rfl
    (g := { method := m, pc := pc + 7, locals := ls, stack := .ref sa :: .ref T.heap.size :: .ref T.heap.size :: rest, locked := none }) rfl hsize rfl rfl (rest := rest) rfl
    (by rw [hb]; exact d7) (by rw [hb]; exact d10) hout hRframes (by simp only [List.map_cons, List.sum_cons, hcat]; omega) hlocks
  obtain ⟨f1, f2⟩ := vx_frame hsame
  rw [hhp] at f1 f2
  have hWs : s.WarmedH U.vm := State.WarmedH.trans hW0 hW
  have hcl : s.vm.findClass cls = some ce.cls := by
    have h9 := hO.cls
    rw [hvm] at h9
    exact h9
  have hall : s.sameButNew ({ U with vm := s.vm } : State) locs mc ms := by
    subst hA
    obtain ⟨e1, e2⟩ := hsame
    rw [State.setFrames_setFrames] at e1
    have h2 : (T.setVm s.vm).sameButNew ({ U with vm := s.vm } : State) [] (0 + 1) (0 + 6) := ⟨e1, e2⟩
    have h3 := X.same.trans h2
    rw [List.append_nil] at h3
    exact h3.mono hc hs
  refine ⟨U, ?_, .threw T.heap.size, hrun, hend, Or.inr ⟨T.heap.size, rfl, cls, ce, locs, hx U hWs.alike f1 (fun q hq => f2 q hq (fun z hz => nomatch hz)), hce, hO.vm, hcl, hWs, hall, hf⟩⟩
  refine st1 _ ?_
  show Steps p.tables e below (T1.setTop { method := m, pc := pc + 3, locals := ls, stack := .ref T.heap.size :: rest, locked := none }) _
  jvm_step X₁.here [X₁.here.top, hexec, d3', Value.category]
  exact X₁.ldcStringW hexec (own := own) (text := text) (index := is) (a := sa) hown' hstr'.1 hstr'.2
    (g := { method := m, pc := pc + 4, locals := ls, stack := .ref T.heap.size :: .ref T.heap.size :: rest, locked := none }) rfl d4' _ hsteps
end Ends
section Bodies
variable {l : Launch}
theorem vx_ofW {y : MethodName} {ws ws' : List Cond} {rm : Room} {Pc : Array Value → State → Prop} {Qc : Array Value → State → Outcome → State → Prop} {XC : String → State → State → Prop} {mc ms : Nat} {free : Addr → Prop} {cc : ByteArray} {maxL : Nat} {ret : Option FieldType}
    (hy : plainName y.cls = true) (hw : ws = Cond.code y cc maxL ret :: ws')
    (body : ∀ p e s m args below meth c s₁, BodyLoose p l y (headSpec ws rm) cc maxL ret e s m args below meth c s₁ → c.maxLocals = maxL → (∀ x ∈ c.exceptionTable.toList, False) → Pc args s →
      W p l e (headSpec ws rm).room s m args below meth c s.heap [] 0 0 (vx_MQ below Qc XC args s mc ms free) (entryFrame m args maxL)) : vx_Met l y ws rm Pc Qc XC mc ms free := by
  refine MetFree.of_bodyS (code := cc) (maxLocals := maxL) (ret := ret) hy ?_ ?_
  · intro args s m h hn
    obtain ⟨meth, c, h1, h2, h3, h4, h5, h6, -, -⟩ := Cond.code_spec hn (atoms_spec (ws := ws) h _ (by rw [hw]; exact List.mem_cons_self))
    exact ⟨meth, c, h1, h2, h3, h4, h5, h6⟩
  · intro p e s m args below meth c s₁ B hml hP _
    have hh0 : s₁.heap = s.heap := by rw [B.state]; rfl
    have ht : ∀ x ∈ c.exceptionTable.toList, False := by
      obtain ⟨meth9, c9, h1, h2, -, -, -, -, h7, -⟩ := Cond.code_spec B.named (atoms_spec (ws := ws) B.pre _ (by rw [hw]; exact List.mem_cons_self))
      cases Option.some.inj (h1.symm.trans B.method)
      cases Option.some.inj (h2.symm.trans (Stand.of_body B).code)
      intro x hx
      rw [Array.isEmpty_iff.mp h7] at hx
      cases hx
    obtain ⟨t, a1, o, b1, b2, b3⟩ := body p e s m args below meth c s₁ B hml ht hP s₁ hh0 (Stand.of_body B)
    exact ⟨t, o, a1, b1, b2, b3⟩
/-- the table of a body with handlers -/
theorem vx_table {p : Program} {x y : MethodName} {S : Spec} {cc bytes : ByteArray} {maxL maxL' : Nat} {ret ret' : Option FieldType} {e : Env} {s s₁ : State} {m : MethodId} {args : Array Value} {below : List Frame} {meth : Method} {c : Code} {hh : List (Nat × Nat × Nat × Nat)}
    (B : BodyLoose p l y S cc maxL ret e s m args below meth c s₁) (h : (Cond.codeWith y bytes maxL' ret' hh).before args s = true) : c.exceptionTable.toList = tableOf hh := by
  obtain ⟨m9, meth9, c9, hn9, h1, h2, -, -, h6, -⟩ := Cond.codeWith_spec h
  cases Option.some.inj (hn9.symm.trans B.named)
  cases Option.some.inj (h1.symm.trans B.method)
  cases Option.some.inj (h2.symm.trans (Stand.of_body B).code)
  rw [← h6, table_eq]
end Bodies
end VXA
/-! ===== END ===== -/
/-! ===== BEGIN a static call of a method with an exception table ===== -/
section VXS
variable {p : Program} {l : Launch} {e : Env} {R : Room} {s : State} {m : MethodId} {args : Array Value} {below : List Frame} {meth : Method} {c : Code} {T : State} {H : Heap} {locs : List Loc} {cells slots : Nat}
abbrev vx_CSW (R : Room) (s : State) (args : Array Value) (own : String) (index : Nat) (y : MethodName) (bytes : ByteArray) (maxL : Nat) (ret : Option FieldType) (hh : List (Nat × Nat × Nat × Nat)) (ws : List Cond) (rm : Room) (mc ms n : Nat) : Prop :=
  (rm.cells = mc ∧ rm.slots = ms ∧ rm.frames + 1 ≤ R.frames ∧ 8 + (maxL + 11) + rm.locals ≤ R.locals ∧ (∀ w ∈ ws, ∀ (a' : Array Value) (U : State), s.WarmedH U.vm → w.before a' U = true) ∧ Cond.codeWith y bytes maxL ret hh ∈ ws) ∧
  (Cond.codeWith y bytes maxL ret hh).before args s = true ∧ (Cond.initialized y.cls).before args s = true ∧ (y.cls ≠ "java/lang/invoke/MethodHandle" ∧ y.cls ≠ "java/lang/invoke/VarHandle") ∧
  (∀ sig, parseMethodDescriptor y.desc = some sig → n = sig.parameters.length) ∧ (Cond.methodLink own index y).before args s = true ∧ (Cond.static y).before args s = true
theorem vx_cwSW {own : String} {index maxL mc ms : Nat} {y : MethodName} {bytes : ByteArray} {ret : Option FieldType} {hh : List (Nat × Nat × Nat × Nat)} {Ts ws ws' : List Cond} {rm : Room} (n : Nat) (ht : ∀ w ∈ Ts, w.before args s = true) (hT : GoodIn Ts (va_wsS own index y ws)) (hw : ws = Cond.codeWith y bytes maxL ret hh :: ws') (hrc : rm.cells = mc) (hrs : rm.slots = ms)
    (hd : y.cls ≠ "java/lang/invoke/MethodHandle" ∧ y.cls ≠ "java/lang/invoke/VarHandle" ∧ (parseMethodDescriptor y.desc).map (fun d => d.parameters.length) = some n) (hR : rm.frames + 1 ≤ R.frames ∧ 8 + (maxL + 11) + rm.locals ≤ R.locals) :
    vx_CSW R s args own index y bytes maxL ret hh ws rm mc ms n := by
  have ok : ∀ w ∈ va_wsS own index y ws, w.before args s = true := fun w h => ht w (hT w h).1
  have hG : GoodIn Ts ws := fun w h => hT w (by unfold va_wsS; exact List.mem_append_right _ h)
  have hc : Cond.codeWith y bytes maxL ret hh ∈ ws := by rw [hw]; exact List.mem_cons_self
  refine ⟨⟨hrc, hrs, hR.1, hR.2, pay_in ht hG, hc⟩, ht _ (hG _ hc).1, ok _ (by simp [va_wsS]), ⟨hd.1, hd.2.1⟩, fun sig h => ?_, ok _ (by simp [va_wsS]), ok _ (by simp [va_wsS])⟩
  have h2 := hd.2.2
  rw [h] at h2
  exact (Option.some.inj h2).symm
theorem vx_callSW (X : Stand p l e R s m args below meth c T locs cells slots) (hexec : p.tables.exec = Jvm.exec) {own : String} {index : Nat} {y : MethodName} {bytes : ByteArray} {maxL : Nat} {ret : Option FieldType} {hh : List (Nat × Nat × Nat × Nat)}
    (hown : s.vm.findClass own = some m.cls) (hlink : (Cond.methodLink own index y).before args s = true) (hstat : (Cond.static y).before args s = true) (hinit : (Cond.initialized y.cls).before args s = true)
    (hcode : (Cond.codeWith y bytes maxL ret hh).before args s = true) (hy : y.cls ≠ "java/lang/invoke/MethodHandle" ∧ y.cls ≠ "java/lang/invoke/VarHandle")
    {W9 : Nat} {Pre : Pt → Array Value → Prop} {Post : Pt → Array Value → Option Value → Pt → Prop} (hK : Back l R p e below s args y 3 W9 Pre Post)
    {g : JFrame} (hg : g.method = m) (hsize : g.locals.size = c.maxLocals) {argsL rest : List Value} (hlen : ∀ sig, parseMethodDescriptor y.desc = some sig → argsL.length = sig.parameters.length)
    (hstack : g.stack = argsL.reverse ++ rest) (hW : 2 * g.monitorRoom + (rest.map fun v => v.category).sum ≤ W9) (hdg : decode c.code g.pc = .ok (.invokestatic index, 3))
    (hpre : ∀ vm₁, s.WarmedH vm₁ → Pre ⟨T.setVm vm₁, locs, cells, slots⟩ argsL.toArray) :
    ∃ (v : Option Value) (vm₁ : Vm) (B : Pt), s.WarmedH vm₁ ∧ Stand p l e R s m args below meth c B.U B.locs B.cells B.slots ∧ Post ⟨T.setVm vm₁, locs, cells, slots⟩ argsL.toArray v B ∧
      ∀ target, Steps p.tables e below (B.U.setTop { g with pc := g.pc + 3, stack := v.toList ++ rest }) target → Steps p.tables e below (T.setTop g) target := by
  obtain ⟨mk, methM, cM, hnamed, hmethM, -, -, -, -, -, -, hsigM⟩ := Cond.codeWith_spec hcode
  have hstatic : methM.isStatic = true := Cond.static_spec hnamed hmethM hstat
  obtain ⟨kP, hkP, -⟩ := className_of_methodNamed hnamed
  have hinitP : kP.init = .initialized := Cond.initialized_spec (findClass_of_methodNamed hnamed) hkP hinit
  obtain ⟨vm₁, X₁, hstep₁⟩ := X.invokestatic hexec hown hlink hnamed hmethM hstatic hkP hinitP hy (g := g) hg (argsL := argsL) (rest := rest) (hlen _ hsigM) hstack hdg
  obtain ⟨v, B, X', hpost, hsteps⟩ := hK m meth c ⟨T.setVm vm₁, locs, cells, slots⟩ { g with stack := rest } (.invokestatic index) mk argsL.toArray X₁ hg hsize hdg hW (X₁.named hnamed) (hpre vm₁ X₁.warmed)
  exact ⟨v, vm₁, B, X₁.warmed, X', hpost, fun target h => hstep₁ _ fun acts => by rw [doInvoke_state]; exact hsteps.trans h⟩
theorem vx_runSW {y : MethodName} {bytes cc : ByteArray} {maxL nL mc ms n index : Nat} {ret : Option FieldType} {hh : List (Nat × Nat × Nat × Nat)} {ws : List Cond} {rm : Room} {Pc : Array Value → State → Prop} {Qc : Array Value → State → Outcome → State → Prop} {free : Addr → Prop} {Ts : List Cond} {own : String} {As rest : List Value} {g : JFrame}
    (S : CallFix p m c cc nL s args Ts own) (hM : Met l y ws rm Pc Qc mc ms free) (cw : vx_CSW R s args own index y bytes maxL ret hh ws rm mc ms n) (hp : PreS s H Pc As)
    (hg : g.method = m) (hn : As.length = n) (hsize : g.locals.size = nL) (hstack : g.stack = As.reverse ++ rest) (hW : 2 * g.monitorRoom + (rest.map fun v => v.category).sum ≤ 8) (hdg : decode cc g.pc = .ok (.invokestatic index, 3)) (hf : cells + mc ≤ R.cells ∧ slots + ms ≤ R.slots) :
    va_Run p l e R s m args below meth c H locs cells slots mc ms g rest (Qc As.toArray) (free) := by
  obtain ⟨⟨hrc, hrs, hfr, hlo, hws, hcw⟩, hcode, hini, hy, hlen, hl, hstt⟩ := cw
  have hK : Back l R p e below s args y 3 8 (PreOf R mc ms Pc) (PostOf Qc mc ms free) := va_backW (hh := hh) (bytes := bytes) (maxL := maxL) (ret := ret) hM hp.1 hrc hrs hfr hlo hws hcw (fun a' U hW => word_at hW (Or.inl (by first | rfl | simp [Cond.onTables, Cond.keeps, Cond.steady])) hini)
  obtain ⟨hx, hb, hml, ho, -⟩ := S
  intro T hT X
  obtain ⟨v, vm₁, ⟨U', l2, c2, s2⟩, hW₁, X', ⟨g', mk, t, L, e1, e2, hq, h1, hL, h2, h3⟩, st⟩ := vx_callSW X hx (hh := hh) (bytes := bytes) (maxL := maxL) (ret := ret) ho hl hstt hini hcode hy hK hg (hsize.trans hml.symm) (argsL := As) (rest := rest) (fun sig h => hn.trans (hlen sig h)) hstack hW (by rw [hb]; exact hdg)
    (fun vm₁ hW₁ => ⟨hf.1, hf.2, hp.2 (T.setVm vm₁) hT hW₁⟩)
  dsimp only [Pt.U, Pt.locs, Pt.cells, Pt.slots] at X' e1 e2 h1 h2 h3 st
  subst h1; subst h2; subst h3
  exact ⟨v, (T.setVm vm₁).calling g' mk As.toArray, t, U', L, hT, X', hL, e1, e2, hq, st⟩
/-- not caught here, past rows that name other classes: it goes on to the caller -/
theorem vx_outP {p : Program} {l : Launch} {e : Env} {R : Room} {s : State} {m : MethodId} {args : Array Value} {below : List Frame} {meth : Method} {c : Code} {H : Heap} {locs : List Loc} {cells slots : Nat} {free : Addr → Prop} {ls : Array Slot} {rest : List Value} {Qc : Array Value → State → Outcome → State → Prop} {XC : String → State → State → Prop}
    {pc : Nat} {own E : String} {ce : Cell} {q : Addr} {mc ms : Nat} (hown : s.vm.findClass own = some m.cls) (hlocks : meth.locks = false)
    (hpass : ∀ z ∈ c.exceptionTable.toList, covers z pc = false ∨ (z.catchType ≠ 0 ∧ ∃ nm : String, (Cond.classLink own z.catchType nm).before args s = true ∧ va_Nc E nm s)) (hcell : H[q]? = some ce) (hv : ce.vm = .none) (hcl : s.vm.findClass E = some ce.cls)
    (hx : ∀ t : State, t.heap = H → s.vm.Alike t.vm → XC E s t) (hf : ∀ z ∈ locs, free z.base) (hc : cells ≤ mc) (hs : slots ≤ ms) :
    vx_W p l e R s m args below meth c H locs cells slots (vx_MQ below Qc XC args s mc ms free) (F0 m pc ls rest) q := by
  intro T hT X
  have hpl : e.platform.magicAccessors = ({} : Platform).magicAccessors := by rw [X.admits.platform]
  obtain ⟨vm', hW', X', st⟩ := X.outThrough hlocks q (g := F0 m pc ls rest) rfl rfl rfl (cell := ce) (by rw [hT]; exact hcell) (by rw [hv]; rfl)
    (by obtain ⟨k9, h9, -⟩ := Vm.findClass_spec hcl; exact ⟨k9, h9⟩) (fun z hz => by
      rcases hpass z hz with h | ⟨hz0, nm, hl1, hn1⟩
      · exact Or.inl h
      · obtain ⟨c6, hc6, hcl6⟩ := Cond.classLink_spec hown hl1 e.platform hpl
        obtain ⟨a8, b8, h1, h2, h3⟩ := hn1
        cases Option.some.inj (h1.symm.trans hcl)
        cases Option.some.inj (h2.symm.trans hc6)
        exact Or.inr ⟨hz0, _, hcl6, h3⟩)
  obtain ⟨g₀, hfr⟩ := X'.frames_eq
  have hcell9 : ((T.setVm vm').setFrames (.throwing q :: below)).heap[q]? = some ce := by
    show T.heap[q]? = some ce
    rw [hT]; exact hcell
  have hend : Ended ((T.setVm vm').setFrames (.throwing q :: below)) below (.threw q) := State.frames_setFrames _ (State.cur_lt_of_frames hfr)
  refine ⟨(T.setVm vm').setFrames (.throwing q :: below), ?_, .threw q, X'.here.running, hend, Or.inr ⟨q, rfl, E, ce, locs, hx _ hT (X'.ends _).1.alike, hcell9, hv, hcl, (X'.ends _).1, (X'.ends _).2.mono hc hs, hf⟩⟩
  rw [X.pushThrowing_eq]
  exact st
/-- a thing of a world lies in the heap -/
theorem vx_lt {D : va_G} {cl : List vw_C} {ws : va_W} {H1 : Heap} (h : va_P D cl ws H1) {k : Nat} {q : Nat × va_E} (hk : ws[k]? = some q) : q.1 < H1.size := (h k q hk).lt
end VXS
/-! ===== END ===== -/
/-! ===== BEGIN methods with a table of their own: called by a name, returning or throwing ===== -/
section VXH
/-! vx_backW, vx_callVX, vx_callSX, vx_callVW, vx_runVW, vx_runVX, vx_runSX, vx_ofWH follow the same proofs as their sisters above (Free/Laws.lean, Shelf42/LK1.lean); vx_outP calls Shelf42/NT130.lean (outThrough). -/
section
variable {l : Launch} {R : Room} {p : Program} {e : Env} {below : List Frame} {s : State} {sargs : Array Value} {y : MethodName} {len W9 : Nat}
theorem vx_backW {ws : List Cond} {rm : Room} {Pc : Array Value → State → Prop} {Qc : Array Value → State → Outcome → State → Prop} {XC : String → State → State → Prop} {mc ms : Nat} {free : Addr → Prop} {bytes : ByteArray} {maxL : Nat} {ret : Option FieldType} {hh : List (Nat × Nat × Nat × Nat)}
    (hM : vx_Met l y ws rm Pc Qc XC mc ms free) (hblind : FrameBlind Pc) (hrc : rm.cells = mc) (hrs : rm.slots = ms)
    (hframes : rm.frames + 1 ≤ R.frames) (hlocals : W9 + (maxL + 11) + rm.locals ≤ R.locals)
    (hws : ∀ w ∈ ws, ∀ a' U, s.WarmedH U.vm → w.before a' U = true) (hcode : Cond.codeWith y bytes maxL ret hh ∈ ws) (hinit : ∀ a' U, s.WarmedH U.vm → (Cond.initialized y.cls).before a' U = true) :
    vx_Back l R p e below s sargs y len W9 (PreOf R mc ms Pc) (PostOf Qc mc ms free) (vx_Post XC mc ms free) := by
  intro m meth c A g ig mk a X hg hsize hdg hW hn hp
  have h1 : (headSpec ws rm).pre.before a A.U = true := atoms_intro fun w hw => hws w hw _ _ X.warmed
  have h2 : (Cond.codeWith y bytes maxL ret hh).before a A.U = true := hws _ hcode _ _ X.warmed
  have h3 : (Cond.initialized y.cls).before a A.U = true := hinit _ _ X.warmed
  have h4 : A.cells + (headSpec ws rm).room.cells ≤ R.cells := by rw [show (headSpec ws rm).room.cells = mc from hrc]; exact hp.1
  have h5 : A.slots + (headSpec ws rm).room.slots ≤ R.slots := by rw [show (headSpec ws rm).room.slots = ms from hrs]; exact hp.2.1
  have hPc : Pc a (A.U.calling g mk a) := hblind _ _ _ _ hp.2.2
  obtain ⟨U, Ls, c0, s0⟩ := A
  dsimp only [Pt.U, Pt.locs, Pt.cells, Pt.slots] at h1 h2 h3 h4 h5 X hn hPc ⊢
  obtain ⟨m9, methY, cY, hn9, hmY, hcY, -, hlY, -⟩ := Cond.codeWith_spec h2
  cases Option.some.inj (hn9.symm.trans hn)
  obtain ⟨kY, hkY, -⟩ := className_of_methodNamed hn
  have hinitY : kY.init = .initialized := Cond.initialized_spec (findClass_of_methodNamed hn) hkY h3
  have h : At U g.method c below := by rw [hg]; exact X.here
  have hlocals9 : W9 + (maxL + 11) + (headSpec ws rm).room.locals ≤ R.locals := hlocals
  have happ : (headSpec ws rm).appliesLoose y e.platform (U.calling g mk a) = true :=
    Spec.appliesLoose_calling (g := g) h hdg hn hkY hinitY
      (X.room_calling (g := g) (R' := (headSpec ws rm).room) hsize hmY hcY hframes (by rw [hlY]; omega) h4 h5) h1
  obtain ⟨mid, hmid⟩ := h.above
  have hfr : (U.setTop g).frames = (.java g :: mid) ++ below := by rw [State.frames_setTop' g h.top, hmid]; rfl
  obtain ⟨o, s₂, hsteps, -, hend, hq⟩ := Steps.callFree hM p X.admits X.cas X.clock (acts := []) hfr happ hPc trivial
  have hq' : vx_Q Qc XC mc ms free a (U.calling g mk a) o s₂ := hq
  rw [State.frames_setTop' g h.top] at hend
  obtain ⟨g₀, hg0⟩ := Option.isSome_iff_exists.mp h.top
  obtain ⟨r, hr⟩ := State.topJava?_eq_some.mp hg0
  have hr' : (({ U with heap := s₂.heap, slotsUsed := s₂.slotsUsed } : State).setVm s₂.vm).frames = .java g₀ :: r := hr
  rcases hq' with ⟨hqc, L, hfe, hL⟩ | ⟨q, rfl, E, ce, L, hx, hce, hcv, hcl, hW₂, hsm, hL⟩
  · obtain ⟨⟨v, rfl⟩, hW₂, e2, q2, q3, q4, q5, q6⟩ := id hfe
    have e3 : s₂ = ({ (U.calling g mk a).setFrames s₂.frames with heap := s₂.heap, slotsUsed := s₂.slotsUsed } : State).setVm s₂.vm := by
      have : s₂ = ({ s₂ with vm := (U.calling g mk a).vm } : State).setVm s₂.vm := rfl
      rw [e2] at this
      exact this
    obtain ⟨c₂, i₂, len₂, hc₂, hd₂, hf₂⟩ := hend
    have hW' : U.WarmedH s₂.vm := hW₂
    have hcc : c₂ = c := by
      have h1 : s₂.code? g.method = U.code? g.method := by
        rw [State.code?_eq, State.code?_eq, hW'.alike.method?]
      exact Option.some.inj (hc₂.symm.trans (h1.trans h.code))
    subst hcc
    have hlen : len₂ = len := by rw [hdg] at hd₂; cases hd₂; rfl
    subst hlen
    have hs₂ : s₂ = (({ U with heap := s₂.heap, slotsUsed := s₂.slotsUsed } : State).setVm s₂.vm).setTop { g with pc := g.pc + len₂, stack := v.toList ++ g.stack } := by
      refine e3.trans ?_
      rw [hf₂, State.calling_eq h.top, State.setFrames_setFrames, State.setTop_of_frames _ hr', hr]
      rfl
    have hsame : U.sameButNew ({ U with heap := s₂.heap, slotsUsed := s₂.slotsUsed } : State) L mc ms := by
      refine ⟨?_, q2, q3, q4, q5, q6⟩
      obtain ⟨t, ht, -⟩ := State.frames_cons hr
      show ({ U with heap := s₂.heap, slotsUsed := s₂.slotsUsed } : State) = { U.setFrames U.frames with heap := s₂.heap, slotsUsed := s₂.slotsUsed }
      rw [State.setFrames_self ht]
    subst hg
    refine Or.inl ⟨v, ⟨(({ U with heap := s₂.heap, slotsUsed := s₂.slotsUsed } : State).setVm s₂.vm), Ls ++ L, c0 + mc, s0 + ms⟩,
      ⟨X.admits, X.cas, X.clock, X.frames, X.room, X.hears, X.method, X.code, (X.here.setHeapUsed s₂.heap s₂.slotsUsed).setVm hW'.alike, X.tail, State.WarmedH.trans X.warmed hW', X.limits, X.bytes, X.same.trans (hsame.setVm s.vm)⟩,
      ⟨g, mk, s₂, L, rfl, rfl, hqc, rfl, hL, rfl, rfl⟩, ?_⟩
    show Steps p.tables e below _ ((({ U with heap := s₂.heap, slotsUsed := s₂.slotsUsed } : State).setVm s₂.vm).setTop { g with pc := g.pc + len₂, stack := v.toList ++ g.stack })
    rw [← hs₂]
    exact hsteps
  · obtain ⟨e2, q2, q3, q4, q5, q6⟩ := id hsm
    have e3 : s₂ = ({ (U.calling g mk a).setFrames s₂.frames with heap := s₂.heap, slotsUsed := s₂.slotsUsed } : State).setVm s₂.vm := by
      have : s₂ = ({ s₂ with vm := (U.calling g mk a).vm } : State).setVm s₂.vm := rfl
      rw [e2] at this
      exact this
    have hf₂ : s₂.frames = .throwing q :: .java g :: U.frames.tail := hend
    have hW' : U.WarmedH s₂.vm := hW₂
    have hs₂ : s₂ = ((({ U with heap := s₂.heap, slotsUsed := s₂.slotsUsed } : State).setVm s₂.vm).setTop g).pushFrame (.throwing q) := by
      refine e3.trans ?_
      rw [hf₂, State.calling_eq h.top, State.setFrames_setFrames, State.pushFrame, State.frames_setTop _ hr', State.setTop_of_frames _ hr', State.setFrames_setFrames, hr]
      rfl
    have hsame : U.sameButNew ({ U with heap := s₂.heap, slotsUsed := s₂.slotsUsed } : State) L mc ms := by
      refine ⟨?_, q2, q3, q4, q5, q6⟩
      obtain ⟨t, ht, -⟩ := State.frames_cons hr
      show ({ U with heap := s₂.heap, slotsUsed := s₂.slotsUsed } : State) = { U.setFrames U.frames with heap := s₂.heap, slotsUsed := s₂.slotsUsed }
      rw [State.setFrames_self ht]
    subst hg
    refine Or.inr ⟨q, ⟨(({ U with heap := s₂.heap, slotsUsed := s₂.slotsUsed } : State).setVm s₂.vm), Ls ++ L, c0 + mc, s0 + ms⟩,
      ⟨X.admits, X.cas, X.clock, X.frames, X.room, X.hears, X.method, X.code, (X.here.setHeapUsed s₂.heap s₂.slotsUsed).setVm hW'.alike, X.tail, State.WarmedH.trans X.warmed hW', X.limits, X.bytes, X.same.trans (hsame.setVm s.vm)⟩,
      ⟨g, mk, s₂, L, E, ce, rfl, rfl, hx, hce, hcv, hcl, rfl, hL, rfl, rfl⟩, ?_⟩
    show Steps p.tables e below _ (((({ U with heap := s₂.heap, slotsUsed := s₂.slotsUsed } : State).setVm s₂.vm).setTop g).pushFrame (.throwing q))
    rw [← hs₂]
    exact hsteps
end
variable {p : Program} {l : Launch} {e : Env} {R : Room} {s : State} {m : MethodId} {args : Array Value} {below : List Frame} {meth : Method} {c : Code} {T : State} {H : Heap} {locs : List Loc} {cells slots : Nat}
theorem vx_callVX (X : Stand p l e R s m args below meth c T locs cells slots) (hexec : p.tables.exec = Jvm.exec) {own C : String} {index : Nat} {y : MethodName} {bytes : ByteArray} {maxL : Nat} {ret : Option FieldType} {hh : List (Nat × Nat × Nat × Nat)}
    (hown : s.vm.findClass own = some m.cls) (hlink : (Cond.methodLink own index y).before args s = true) (hinst : (Cond.instanceMethod y).before args s = true) (hsel : (Cond.selects C y y).before args s = true)
    (hcode : (Cond.codeWith y bytes maxL ret hh).before args s = true) (hy : y.cls ≠ "java/lang/invoke/MethodHandle" ∧ y.cls ≠ "java/lang/invoke/VarHandle")
    {W9 : Nat} {Pre : Pt → Array Value → Prop} {Post : Pt → Array Value → Option Value → Pt → Prop} {PostX : Pt → Array Value → Addr → Pt → Prop} (hK : vx_Back l R p e below s args y 3 W9 Pre Post PostX)
    {b : Addr} {cellB : Cell} (hcell : T.heap[b]? = some cellB) (hobj : cellB.vm.isStatics = false) (hcls : s.vm.findClass C = some cellB.cls)
    {g : JFrame} (hg : g.method = m) (hsize : g.locals.size = c.maxLocals) {argsL rest : List Value} (hlen : ∀ sig, parseMethodDescriptor y.desc = some sig → argsL.length = sig.parameters.length)
    (hstack : g.stack = argsL.reverse ++ .ref b :: rest) (hW : 2 * g.monitorRoom + (rest.map fun v => v.category).sum ≤ W9) (hdg : decode c.code g.pc = .ok (.invokevirtual index, 3))
    (hpre : ∀ vm₁, s.WarmedH vm₁ → Pre ⟨T.setVm vm₁, locs, cells, slots⟩ (Value.ref b :: argsL).toArray) :
    (∃ (v : Option Value) (vm₁ : Vm) (B : Pt), s.WarmedH vm₁ ∧ Stand p l e R s m args below meth c B.U B.locs B.cells B.slots ∧ Post ⟨T.setVm vm₁, locs, cells, slots⟩ (Value.ref b :: argsL).toArray v B ∧
      ∀ target, Steps p.tables e below (B.U.setTop { g with pc := g.pc + 3, stack := v.toList ++ rest }) target → Steps p.tables e below (T.setTop g) target) ∨
    (∃ (q : Addr) (vm₁ : Vm) (B : Pt), s.WarmedH vm₁ ∧ Stand p l e R s m args below meth c B.U B.locs B.cells B.slots ∧ PostX ⟨T.setVm vm₁, locs, cells, slots⟩ (Value.ref b :: argsL).toArray q B ∧
      Steps p.tables e below (T.setTop g) ((B.U.setTop { g with stack := rest }).pushFrame (.throwing q))) := by
  obtain ⟨mk, methM, hnamed, hmethM, hstM, habM⟩ := Cond.instanceMethod_spec hinst
  obtain ⟨m8, methM', cM, hn8, hmethM', -, -, -, -, -, -, hsigM⟩ := Cond.codeWith_spec hcode
  cases Option.some.inj (hn8.symm.trans hnamed)
  cases hmethM.symm.trans hmethM'
  obtain ⟨c2, r2, m2, q1, q2, q3, q4, kP, hkP, hkPi⟩ := Cond.selects_spec hsel
  cases hcls.symm.trans q1
  cases (State.methodFound?_of_named hnamed hy).symm.trans q2
  cases hnamed.symm.trans q3
  have hselP : selectMethod e.platform s.vm cellB.cls mk = .method mk := by rw [Launch.admits_selectMethod X.admits]; exact q4
  obtain ⟨vm₁, X₁, hstep₁⟩ := X.invokevirtual hexec hown hlink hnamed hmethM hstM hkP hkPi hy (a := b) (cell := cellB) hcell
    (fun z h => by rw [h] at hobj; cases hobj) hselP hmethM habM hkP hkPi (g := g) hg (argsL := argsL) (rest := rest) (hlen _ hsigM) hstack hdg
  rcases hK m meth c ⟨T.setVm vm₁, locs, cells, slots⟩ { g with stack := rest } (.invokevirtual index) mk (Value.ref b :: argsL).toArray X₁ hg hsize hdg hW (X₁.named hnamed) (hpre vm₁ X₁.warmed) with ⟨v, B, X', hpost, hsteps⟩ | ⟨q, B, X', hpost, hsteps⟩
  · exact Or.inl ⟨v, vm₁, B, X₁.warmed, X', hpost, fun target h => hstep₁ _ fun acts => by rw [doInvoke_state]; exact hsteps.trans h⟩
  · exact Or.inr ⟨q, vm₁, B, X₁.warmed, X', hpost, hstep₁ _ fun acts => by rw [doInvoke_state]; exact hsteps⟩
theorem vx_callSX (X : Stand p l e R s m args below meth c T locs cells slots) (hexec : p.tables.exec = Jvm.exec) {own : String} {index : Nat} {y : MethodName} {bytes : ByteArray} {maxL : Nat} {ret : Option FieldType} {hh : List (Nat × Nat × Nat × Nat)}
    (hown : s.vm.findClass own = some m.cls) (hlink : (Cond.methodLink own index y).before args s = true) (hstat : (Cond.static y).before args s = true) (hinit : (Cond.initialized y.cls).before args s = true)
    (hcode : (Cond.codeWith y bytes maxL ret hh).before args s = true) (hy : y.cls ≠ "java/lang/invoke/MethodHandle" ∧ y.cls ≠ "java/lang/invoke/VarHandle")
    {W9 : Nat} {Pre : Pt → Array Value → Prop} {Post : Pt → Array Value → Option Value → Pt → Prop} {PostX : Pt → Array Value → Addr → Pt → Prop} (hK : vx_Back l R p e below s args y 3 W9 Pre Post PostX)
    {g : JFrame} (hg : g.method = m) (hsize : g.locals.size = c.maxLocals) {argsL rest : List Value} (hlen : ∀ sig, parseMethodDescriptor y.desc = some sig → argsL.length = sig.parameters.length)
    (hstack : g.stack = argsL.reverse ++ rest) (hW : 2 * g.monitorRoom + (rest.map fun v => v.category).sum ≤ W9) (hdg : decode c.code g.pc = .ok (.invokestatic index, 3))
    (hpre : ∀ vm₁, s.WarmedH vm₁ → Pre ⟨T.setVm vm₁, locs, cells, slots⟩ argsL.toArray) :
    (∃ (v : Option Value) (vm₁ : Vm) (B : Pt), s.WarmedH vm₁ ∧ Stand p l e R s m args below meth c B.U B.locs B.cells B.slots ∧ Post ⟨T.setVm vm₁, locs, cells, slots⟩ argsL.toArray v B ∧
      ∀ target, Steps p.tables e below (B.U.setTop { g with pc := g.pc + 3, stack := v.toList ++ rest }) target → Steps p.tables e below (T.setTop g) target) ∨
    (∃ (q : Addr) (vm₁ : Vm) (B : Pt), s.WarmedH vm₁ ∧ Stand p l e R s m args below meth c B.U B.locs B.cells B.slots ∧ PostX ⟨T.setVm vm₁, locs, cells, slots⟩ argsL.toArray q B ∧
      Steps p.tables e below (T.setTop g) ((B.U.setTop { g with stack := rest }).pushFrame (.throwing q))) := by
  obtain ⟨mk, methM, cM, hnamed, hmethM, -, -, -, -, -, -, hsigM⟩ := Cond.codeWith_spec hcode
  have hstatic : methM.isStatic = true := Cond.static_spec hnamed hmethM hstat
  obtain ⟨kP, hkP, -⟩ := className_of_methodNamed hnamed
  have hinitP : kP.init = .initialized := Cond.initialized_spec (findClass_of_methodNamed hnamed) hkP hinit
  obtain ⟨vm₁, X₁, hstep₁⟩ := X.invokestatic hexec hown hlink hnamed hmethM hstatic hkP hinitP hy (g := g) hg (argsL := argsL) (rest := rest) (hlen _ hsigM) hstack hdg
  rcases hK m meth c ⟨T.setVm vm₁, locs, cells, slots⟩ { g with stack := rest } (.invokestatic index) mk argsL.toArray X₁ hg hsize hdg hW (X₁.named hnamed) (hpre vm₁ X₁.warmed) with ⟨v, B, X', hpost, hsteps⟩ | ⟨q, B, X', hpost, hsteps⟩
  · exact Or.inl ⟨v, vm₁, B, X₁.warmed, X', hpost, fun target h => hstep₁ _ fun acts => by rw [doInvoke_state]; exact hsteps.trans h⟩
  · exact Or.inr ⟨q, vm₁, B, X₁.warmed, X', hpost, hstep₁ _ fun acts => by rw [doInvoke_state]; exact hsteps⟩
theorem vx_callVW (X : Stand p l e R s m args below meth c T locs cells slots) (hexec : p.tables.exec = Jvm.exec) {own C : String} {index : Nat} {y : MethodName} {bytes : ByteArray} {maxL : Nat} {ret : Option FieldType} {hh : List (Nat × Nat × Nat × Nat)}
    (hown : s.vm.findClass own = some m.cls) (hlink : (Cond.methodLink own index y).before args s = true) (hinst : (Cond.instanceMethod y).before args s = true) (hsel : (Cond.selects C y y).before args s = true)
    (hcode : (Cond.codeWith y bytes maxL ret hh).before args s = true) (hy : y.cls ≠ "java/lang/invoke/MethodHandle" ∧ y.cls ≠ "java/lang/invoke/VarHandle")
    {W9 : Nat} {Pre : Pt → Array Value → Prop} {Post : Pt → Array Value → Option Value → Pt → Prop} (hK : Back l R p e below s args y 3 W9 Pre Post)
    {b : Addr} {cellB : Cell} (hcell : T.heap[b]? = some cellB) (hobj : cellB.vm.isStatics = false) (hcls : s.vm.findClass C = some cellB.cls)
    {g : JFrame} (hg : g.method = m) (hsize : g.locals.size = c.maxLocals) {argsL rest : List Value} (hlen : ∀ sig, parseMethodDescriptor y.desc = some sig → argsL.length = sig.parameters.length)
    (hstack : g.stack = argsL.reverse ++ .ref b :: rest) (hW : 2 * g.monitorRoom + (rest.map fun v => v.category).sum ≤ W9) (hdg : decode c.code g.pc = .ok (.invokevirtual index, 3))
    (hpre : ∀ vm₁, s.WarmedH vm₁ → Pre ⟨T.setVm vm₁, locs, cells, slots⟩ (Value.ref b :: argsL).toArray) :
    ∃ (v : Option Value) (vm₁ : Vm) (B : Pt), s.WarmedH vm₁ ∧ Stand p l e R s m args below meth c B.U B.locs B.cells B.slots ∧ Post ⟨T.setVm vm₁, locs, cells, slots⟩ (Value.ref b :: argsL).toArray v B ∧
      ∀ target, Steps p.tables e below (B.U.setTop { g with pc := g.pc + 3, stack := v.toList ++ rest }) target → Steps p.tables e below (T.setTop g) target := by
  obtain ⟨mk, methM, hnamed, hmethM, hstM, habM⟩ := Cond.instanceMethod_spec hinst
  obtain ⟨m8, methM', cM, hn8, hmethM', -, -, -, -, -, -, hsigM⟩ := Cond.codeWith_spec hcode
  cases Option.some.inj (hn8.symm.trans hnamed)
  cases hmethM.symm.trans hmethM'
  obtain ⟨c2, r2, m2, q1, q2, q3, q4, kP, hkP, hkPi⟩ := Cond.selects_spec hsel
  cases hcls.symm.trans q1
  cases (State.methodFound?_of_named hnamed hy).symm.trans q2
  cases hnamed.symm.trans q3
  have hselP : selectMethod e.platform s.vm cellB.cls mk = .method mk := by rw [Launch.admits_selectMethod X.admits]; exact q4
  obtain ⟨vm₁, X₁, hstep₁⟩ := X.invokevirtual hexec hown hlink hnamed hmethM hstM hkP hkPi hy (a := b) (cell := cellB) hcell
    (fun z h => by rw [h] at hobj; cases hobj) hselP hmethM habM hkP hkPi (g := g) hg (argsL := argsL) (rest := rest) (hlen _ hsigM) hstack hdg
  obtain ⟨v, B, X', hpost, hsteps⟩ := hK m meth c ⟨T.setVm vm₁, locs, cells, slots⟩ { g with stack := rest } (.invokevirtual index) mk (Value.ref b :: argsL).toArray X₁ hg hsize hdg hW (X₁.named hnamed) (hpre vm₁ X₁.warmed)
  exact ⟨v, vm₁, B, X₁.warmed, X', hpost, fun target h => hstep₁ _ fun acts => by rw [doInvoke_state]; exact hsteps.trans h⟩
abbrev vx_CVW (R : Room) (s : State) (args : Array Value) (own C : String) (index : Nat) (y : MethodName) (bytes : ByteArray) (maxL : Nat) (ret : Option FieldType) (hh : List (Nat × Nat × Nat × Nat)) (ws : List Cond) (rm : Room) (mc ms n : Nat) : Prop :=
  (rm.cells = mc ∧ rm.slots = ms ∧ rm.frames + 1 ≤ R.frames ∧ 8 + (maxL + 11) + rm.locals ≤ R.locals ∧ (∀ w ∈ ws, ∀ (a' : Array Value) (U : State), s.WarmedH U.vm → w.before a' U = true) ∧ Cond.codeWith y bytes maxL ret hh ∈ ws) ∧
  (Cond.codeWith y bytes maxL ret hh).before args s = true ∧ (Cond.initialized y.cls).before args s = true ∧ (y.cls ≠ "java/lang/invoke/MethodHandle" ∧ y.cls ≠ "java/lang/invoke/VarHandle") ∧
  (∀ sig, parseMethodDescriptor y.desc = some sig → n = sig.parameters.length) ∧ (Cond.methodLink own index y).before args s = true ∧ (Cond.instanceMethod y).before args s = true ∧ (Cond.selects C y y).before args s = true
theorem vx_cwVW {own C : String} {index maxL mc ms : Nat} {y : MethodName} {bytes : ByteArray} {ret : Option FieldType} {hh : List (Nat × Nat × Nat × Nat)} {Ts ws ws' : List Cond} {rm : Room} (n : Nat) (ht : ∀ w ∈ Ts, w.before args s = true) (hT : GoodIn Ts (wsV own index C y ws)) (hw : ws = Cond.codeWith y bytes maxL ret hh :: ws') (hrc : rm.cells = mc) (hrs : rm.slots = ms)
    (hd : y.cls = C ∧ y.cls ≠ "java/lang/invoke/MethodHandle" ∧ y.cls ≠ "java/lang/invoke/VarHandle" ∧ (parseMethodDescriptor y.desc).map (fun d => d.parameters.length) = some n) (hR : rm.frames + 1 ≤ R.frames ∧ 8 + (maxL + 11) + rm.locals ≤ R.locals) :
    vx_CVW R s args own C index y bytes maxL ret hh ws rm mc ms n := by
  obtain ⟨hC, hd⟩ := hd
  subst hC
  have ok : ∀ w ∈ wsV own index y.cls y ws, w.before args s = true := fun w h => ht w (hT w h).1
  have hG : GoodIn Ts ws := fun w h => hT w (by unfold wsV; exact List.mem_append_right _ h)
  have hc : Cond.codeWith y bytes maxL ret hh ∈ ws := by rw [hw]; exact List.mem_cons_self
  refine ⟨⟨hrc, hrs, hR.1, hR.2, pay_in ht hG, hc⟩, ht _ (hG _ hc).1, ok _ (by simp [wsV]), ⟨hd.1, hd.2.1⟩, fun sig h => ?_, ok _ (by simp [wsV]), ok _ (by simp [wsV]), ok _ (by simp [wsV])⟩
  have h2 := hd.2.2
  rw [h] at h2
  exact (Option.some.inj h2).symm
theorem vx_runVW {y : MethodName} {bytes cc : ByteArray} {maxL nL mc ms n index : Nat} {ret : Option FieldType} {hh : List (Nat × Nat × Nat × Nat)} {ws : List Cond} {rm : Room} {Pc : Array Value → State → Prop} {Qc : Array Value → State → Outcome → State → Prop} {free : Addr → Prop} {Ts : List Cond} {own C : String} {b : Addr} {As rest : List Value} {g : JFrame}
    (S : CallFix p m c cc nL s args Ts own) (hM : Met l y ws rm Pc Qc mc ms free) (cw : vx_CVW R s args own C index y bytes maxL ret hh ws rm mc ms n) (hp : PreV s H C b Pc As)
    (hg : g.method = m) (hn : As.length = n) (hsize : g.locals.size = nL) (hstack : g.stack = As.reverse ++ .ref b :: rest) (hW : 2 * g.monitorRoom + (rest.map fun v => v.category).sum ≤ 8) (hdg : decode cc g.pc = .ok (.invokevirtual index, 3)) (hf : cells + mc ≤ R.cells ∧ slots + ms ≤ R.slots) :
    va_Run p l e R s m args below meth c H locs cells slots mc ms g rest (Qc (Value.ref b :: As).toArray) free := by
  obtain ⟨⟨hrc, hrs, hfr, hlo, hws, hcw⟩, hcode, hini, hy, hlen, hl, hin, hse⟩ := cw
  have hK : Back l R p e below s args y 3 8 (PreOf R mc ms Pc) (PostOf Qc mc ms free) := va_backW (hh := hh) (bytes := bytes) (maxL := maxL) (ret := ret) hM hp.1 hrc hrs hfr hlo hws hcw (fun a' U hW => word_at hW (Or.inl (by first | rfl | simp [Cond.onTables, Cond.keeps, Cond.steady])) hini)
  obtain ⟨hx, hb, hml, ho, -⟩ := S
  obtain ⟨-, ⟨cellB, hcB, hoB, hclB⟩, hPc⟩ := hp
  intro T hT X
  obtain ⟨v, vm₁, ⟨U', l2, c2, s2⟩, hW₁, X', ⟨g', mk, t, L, e1, e2, hq, h1, hL, h2, h3⟩, st⟩ := vx_callVW X hx (C := C) (hh := hh) (bytes := bytes) (maxL := maxL) (ret := ret) ho hl hin hse hcode hy hK (by rw [hT]; exact hcB) hoB hclB hg (hsize.trans hml.symm) (argsL := As) (rest := rest) (fun sig h => hn.trans (hlen sig h)) hstack hW (by rw [hb]; exact hdg)
    (fun vm₁ hW₁ => ⟨hf.1, hf.2, hPc (T.setVm vm₁) hT hW₁⟩)
  dsimp only [Pt.U, Pt.locs, Pt.cells, Pt.slots] at X' e1 e2 h1 h2 h3 st
  subst h1; subst h2; subst h3
  exact ⟨v, (T.setVm vm₁).calling g' mk (Value.ref b :: As).toArray, t, U', L, hT, X', hL, e1, e2, hq, st⟩
section
variable {y : MethodName} {bytes cc : ByteArray} {maxL nL mc ms n index : Nat} {ret : Option FieldType} {ws : List Cond} {rm : Room} {Pc : Array Value → State → Prop} {Qc : Array Value → State → Outcome → State → Prop} {XC : String → State → State → Prop} {free : Addr → Prop} {Ts : List Cond} {own C : String} {b : Addr} {As rest : List Value} {g : JFrame}
theorem vx_runVX {hh : List (Nat × Nat × Nat × Nat)} (S : CallFix p m c cc nL s args Ts own) (hM : vx_Met l y ws rm Pc Qc XC mc ms free) (cw : vx_CVW R s args own C index y bytes maxL ret hh ws rm mc ms n) (hp : PreV s H C b Pc As)
    (hg : g.method = m) (hn : As.length = n) (hsize : g.locals.size = nL) (hstack : g.stack = As.reverse ++ .ref b :: rest) (hW : 2 * g.monitorRoom + (rest.map fun v => v.category).sum ≤ 8) (hdg : decode cc g.pc = .ok (.invokevirtual index, 3)) (hf : cells + mc ≤ R.cells ∧ slots + ms ≤ R.slots) :
    vx_Run p l e R s m args below meth c H locs cells slots mc ms g rest (Qc (Value.ref b :: As).toArray) XC free := by
  obtain ⟨⟨hrc, hrs, hfr, hlo, hws, hcw⟩, hcode, hini, hy, hlen, hl, hin, hse⟩ := cw
  have hK : vx_Back l R p e below s args y 3 8 (PreOf R mc ms Pc) (PostOf Qc mc ms free) (vx_Post XC mc ms free) := vx_backW (hh := hh) (bytes := bytes) (maxL := maxL) (ret := ret) hM hp.1 hrc hrs hfr hlo hws hcw (fun a' U hW => word_at hW (Or.inl (by first | rfl | simp [Cond.onTables, Cond.keeps, Cond.steady])) hini)
  obtain ⟨hx, hb, hml, ho, -⟩ := S
  obtain ⟨-, ⟨cellB, hcB, hoB, hclB⟩, hPc⟩ := hp
  intro T hT X
  rcases vx_callVX X hx (C := C) (hh := hh) (bytes := bytes) (maxL := maxL) (ret := ret) ho hl hin hse hcode hy hK (by rw [hT]; exact hcB) hoB hclB hg (hsize.trans hml.symm) (argsL := As) (rest := rest) (fun sig h => hn.trans (hlen sig h)) hstack hW (by rw [hb]; exact hdg)
    (fun vm₁ hW₁ => ⟨hf.1, hf.2, hPc (T.setVm vm₁) hT hW₁⟩) with ⟨v, vm₁, ⟨U', l2, c2, s2⟩, hW₁, X', ⟨g', mk, t, L, e1, e2, hq, h1, hL, h2, h3⟩, st⟩ | ⟨q, vm₁, ⟨U', l2, c2, s2⟩, hW₁, X', ⟨g', mk, t, L, E, ce, e1, e2, hq, hce, hcv, hcl, h1, hL, h2, h3⟩, st⟩
  · dsimp only [Pt.U, Pt.locs, Pt.cells, Pt.slots] at X' e1 e2 h1 h2 h3 st
    subst h1; subst h2; subst h3
    exact Or.inl ⟨v, (T.setVm vm₁).calling g' mk (Value.ref b :: As).toArray, t, U', L, hT, X', hL, e1, e2, hq, st⟩
  · dsimp only [Pt.U, Pt.locs, Pt.cells, Pt.slots] at X' e1 e2 h1 h2 h3 st hcl
    subst h1; subst h2; subst h3
    exact Or.inr ⟨q, (T.setVm vm₁).calling g' mk (Value.ref b :: As).toArray, t, U', L, E, ce, hT, X', hL, e1, e2, hq, hce, hcv, vx_cls hW₁ hcl, st⟩
theorem vx_runSX {hh : List (Nat × Nat × Nat × Nat)} (S : CallFix p m c cc nL s args Ts own) (hM : vx_Met l y ws rm Pc Qc XC mc ms free) (cw : vx_CSW R s args own index y bytes maxL ret hh ws rm mc ms n) (hp : PreS s H Pc As)
    (hg : g.method = m) (hn : As.length = n) (hsize : g.locals.size = nL) (hstack : g.stack = As.reverse ++ rest) (hW : 2 * g.monitorRoom + (rest.map fun v => v.category).sum ≤ 8) (hdg : decode cc g.pc = .ok (.invokestatic index, 3)) (hf : cells + mc ≤ R.cells ∧ slots + ms ≤ R.slots) :
    vx_Run p l e R s m args below meth c H locs cells slots mc ms g rest (Qc As.toArray) XC free := by
  obtain ⟨⟨hrc, hrs, hfr, hlo, hws, hcw⟩, hcode, hini, hy, hlen, hl, hstt⟩ := cw
  have hK : vx_Back l R p e below s args y 3 8 (PreOf R mc ms Pc) (PostOf Qc mc ms free) (vx_Post XC mc ms free) := vx_backW (hh := hh) (bytes := bytes) (maxL := maxL) (ret := ret) hM hp.1 hrc hrs hfr hlo hws hcw (fun a' U hW => word_at hW (Or.inl (by first | rfl | simp [Cond.onTables, Cond.keeps, Cond.steady])) hini)
  obtain ⟨hx, hb, hml, ho, -⟩ := S
  intro T hT X
  rcases vx_callSX X hx (hh := hh) (bytes := bytes) (maxL := maxL) (ret := ret) ho hl hstt hini hcode hy hK hg (hsize.trans hml.symm) (argsL := As) (rest := rest) (fun sig h => hn.trans (hlen sig h)) hstack hW (by rw [hb]; exact hdg)
    (fun vm₁ hW₁ => ⟨hf.1, hf.2, hp.2 (T.setVm vm₁) hT hW₁⟩) with ⟨v, vm₁, ⟨U', l2, c2, s2⟩, hW₁, X', ⟨g', mk, t, L, e1, e2, hq, h1, hL, h2, h3⟩, st⟩ | ⟨q, vm₁, ⟨U', l2, c2, s2⟩, hW₁, X', ⟨g', mk, t, L, E, ce, e1, e2, hq, hce, hcv, hcl, h1, hL, h2, h3⟩, st⟩
  · dsimp only [Pt.U, Pt.locs, Pt.cells, Pt.slots] at X' e1 e2 h1 h2 h3 st
    subst h1; subst h2; subst h3
    exact Or.inl ⟨v, (T.setVm vm₁).calling g' mk As.toArray, t, U', L, hT, X', hL, e1, e2, hq, st⟩
  · dsimp only [Pt.U, Pt.locs, Pt.cells, Pt.slots] at X' e1 e2 h1 h2 h3 st hcl
    subst h1; subst h2; subst h3
    exact Or.inr ⟨q, (T.setVm vm₁).calling g' mk As.toArray, t, U', L, E, ce, hT, X', hL, e1, e2, hq, hce, hcv, vx_cls hW₁ hcl, st⟩
end
end VXH
theorem vx_ofWH {l : Launch} {y : MethodName} {ws ws' : List Cond} {rm : Room} {Pc : Array Value → State → Prop} {Qc : Array Value → State → Outcome → State → Prop} {XC : String → State → State → Prop} {mc ms : Nat} {free : Addr → Prop} {cc : ByteArray} {maxL : Nat} {ret : Option FieldType} {hh : List (Nat × Nat × Nat × Nat)}
    (hy : plainName y.cls = true) (hw : ws = Cond.codeWith y cc maxL ret hh :: ws')
    (body : ∀ p e s m args below meth c s₁, BodyLoose p l y (headSpec ws rm) cc maxL ret e s m args below meth c s₁ → c.maxLocals = maxL → Pc args s →
      W p l e (headSpec ws rm).room s m args below meth c s.heap [] 0 0 (vx_MQ below Qc XC args s mc ms free) (entryFrame m args maxL)) : vx_Met l y ws rm Pc Qc XC mc ms free := by
  refine MetFree.of_bodyS (code := cc) (maxLocals := maxL) (ret := ret) hy ?_ ?_
  · intro args s m h hn
    obtain ⟨m9, meth, c, hn9, h1, h2, h3, h4, -, h5, h6, -⟩ := Cond.codeWith_spec (atoms_spec (ws := ws) h _ (by rw [hw]; exact List.mem_cons_self))
    cases hn.symm.trans hn9
    exact ⟨meth, c, h1, h2, h3, h4, h5, h6⟩
  · intro p e s m args below meth c s₁ B hml hP _
    have hh0 : s₁.heap = s.heap := by rw [B.state]; rfl
    obtain ⟨t, a1, o, b1, b2, b3⟩ := body p e s m args below meth c s₁ B hml hP s₁ hh0 (Stand.of_body B)
    exact ⟨t, o, a1, b1, b2, b3⟩
/-! ===== END ===== -/
end
section
/-! ===== BEGIN printed: names, fields, word lists, decode rows ===== -/
def RX0 : String := "BoxVault$Box"
def TX0 : u_T := fun k => match k with
  | 0 => ("BoxVault$Box", "state", "I", false)
  | 1 => ("BoxVault$Box", "holder", "I", false)
  | 2 => ("BoxVault$Box", "paidUpTo", "I", false)
  | 3 => ("BoxVault$Box", "unpaidDays", "I", false)
  | 4 => ("BoxVault$Box", "entries", "I", false)
  | 5 => ("BoxVault$Box", "willSought", "Z", false)
  | 6 => ("BoxVault$Box", "proxyCount", "I", false)
  | 7 => ("BoxVault$Box", "proxyPerson", "[I", true)
  | 8 => ("BoxVault$Box", "proxyFirst", "[I", true)
  | _ => ("BoxVault$Box", "proxyLast", "[I", true)
def tyX0 : Nat → FieldType := fun k => match k with
  | 0 => .int
  | 1 => .int
  | 2 => .int
  | 3 => .int
  | 4 => .int
  | 5 => .boolean
  | 6 => .int
  | 7 => .array .int
  | 8 => .array .int
  | _ => .array .int
abbrev wsX00 : List Cond := u_ws RX0 TX0 10
theorem nmX0 : ∀ a, a < 10 → ∀ b, b < 10 → a ≠ b → (TX0 a).2.1 ≠ (TX0 b).2.1 := by decide +kernel
theorem tyX0_ok : ∀ k, k < 10 → parseFieldDescriptor (TX0 k).2.2.1 = some (tyX0 k) := by decide +kernel
abbrev cX0_init : ByteArray := prog_2_method_1_code
def yX0_init : MethodName := ⟨RX0, "<init>", "()V"⟩
abbrev cX0_isFree : ByteArray := prog_2_method_2_code
def yX0_isFree : MethodName := ⟨RX0, "isFree", "()Z"⟩
abbrev cX0_isRented : ByteArray := prog_2_method_3_code
def yX0_isRented : MethodName := ⟨RX0, "isRented", "()Z"⟩
abbrev cX0_startRent : ByteArray := prog_2_method_4_code
def yX0_startRent : MethodName := ⟨RX0, "startRent", "(II)V"⟩
abbrev cX0_breakOpen : ByteArray := prog_2_method_5_code
def yX0_breakOpen : MethodName := ⟨RX0, "breakOpen", "(I)V"⟩
abbrev cX0_empty : ByteArray := prog_2_method_6_code
def yX0_empty : MethodName := ⟨RX0, "empty", "()V"⟩
abbrev cX0_overdueOn : ByteArray := prog_2_method_7_code
def yX0_overdueOn : MethodName := ⟨RX0, "overdueOn", "(I)I"⟩
abbrev cX0_noticesOn : ByteArray := prog_2_method_8_code
def yX0_noticesOn : MethodName := ⟨RX0, "noticesOn", "(I)I"⟩
abbrev cX0_addProxy : ByteArray := prog_2_method_9_code
def yX0_addProxy : MethodName := ⟨RX0, "addProxy", "(III)V"⟩
abbrev cX0_endProxies : ByteArray := prog_2_method_10_code
def yX0_endProxies : MethodName := ⟨RX0, "endProxies", "()V"⟩
abbrev cX0_hasProxyOn : ByteArray := prog_2_method_11_code
def yX0_hasProxyOn : MethodName := ⟨RX0, "hasProxyOn", "(II)Z"⟩
def RX1 : String := "BoxVault$OrderBook"
def TX1 : u_T := fun k => match k with
  | 0 => ("BoxVault$OrderBook", "count", "I", false)
  | 1 => ("BoxVault$OrderBook", "box", "[I", true)
  | 2 => ("BoxVault$OrderBook", "court", "[I", true)
  | 3 => ("BoxVault$OrderBook", "kind", "[I", true)
  | 4 => ("BoxVault$OrderBook", "person", "[I", true)
  | _ => ("BoxVault$OrderBook", "holds", "[Z", true)
def tyX1 : Nat → FieldType := fun k => match k with
  | 0 => .int
  | 1 => .array .int
  | 2 => .array .int
  | 3 => .array .int
  | 4 => .array .int
  | _ => .array .boolean
abbrev wsX10 : List Cond := u_ws RX1 TX1 6
theorem nmX1 : ∀ a, a < 6 → ∀ b, b < 6 → a ≠ b → (TX1 a).2.1 ≠ (TX1 b).2.1 := by decide +kernel
theorem tyX1_ok : ∀ k, k < 6 → parseFieldDescriptor (TX1 k).2.2.1 = some (tyX1 k) := by decide +kernel
abbrev cX1_init : ByteArray := prog_3_method_1_code
def yX1_init : MethodName := ⟨RX1, "<init>", "()V"⟩
abbrev cX1_isFull : ByteArray := prog_3_method_2_code
def yX1_isFull : MethodName := ⟨RX1, "isFull", "()Z"⟩
abbrev cX1_has : ByteArray := prog_3_method_3_code
def yX1_has : MethodName := ⟨RX1, "has", "(I)Z"⟩
abbrev cX1_add : ByteArray := prog_3_method_4_code
def yX1_add : MethodName := ⟨RX1, "add", "(IIII)I"⟩
abbrev cX1_isInForce : ByteArray := prog_3_method_5_code
def yX1_isInForce : MethodName := ⟨RX1, "isInForce", "(I)Z"⟩
abbrev cX1_isBinding : ByteArray := prog_3_method_6_code
def yX1_isBinding : MethodName := ⟨RX1, "isBinding", "(I)Z"⟩
abbrev cX1_end : ByteArray := prog_3_method_7_code
def yX1_end : MethodName := ⟨RX1, "end", "(I)V"⟩
abbrev cX1_kindOf : ByteArray := prog_3_method_8_code
def yX1_kindOf : MethodName := ⟨RX1, "kindOf", "(I)I"⟩
abbrev cX1_personOf : ByteArray := prog_3_method_9_code
def yX1_personOf : MethodName := ⟨RX1, "personOf", "(I)I"⟩
abbrev cX1_bindingOn : ByteArray := prog_3_method_10_code
def yX1_bindingOn : MethodName := ⟨RX1, "bindingOn", "(I)I"⟩
abbrev cX1_endAllOn : ByteArray := prog_3_method_11_code
def yX1_endAllOn : MethodName := ⟨RX1, "endAllOn", "(I)V"⟩
def RX2 : String := "BoxVault"
def TX2 : u_T := fun k => match k with
  | 0 => ("BoxVault", "boxes", "[LBoxVault$Box;", true)
  | 1 => ("BoxVault", "orders", "LBoxVault$OrderBook;", true)
  | 2 => ("BoxVault", "dead", "[Z", true)
  | 3 => ("BoxVault", "heirs", "[I", true)
  | 4 => ("BoxVault", "refused", "[I", true)
  | _ => ("BoxVault", "today", "I", false)
def tyX2 : Nat → FieldType := fun k => match k with
  | 0 => .array (.object "BoxVault$Box")
  | 1 => .object "BoxVault$OrderBook"
  | 2 => .array .boolean
  | 3 => .array .int
  | 4 => .array .int
  | _ => .int
abbrev wsX20 : List Cond := u_ws RX2 TX2 6
theorem nmX2 : ∀ a, a < 6 → ∀ b, b < 6 → a ≠ b → (TX2 a).2.1 ≠ (TX2 b).2.1 := by decide +kernel
theorem tyX2_ok : ∀ k, k < 6 → parseFieldDescriptor (TX2 k).2.2.1 = some (tyX2 k) := by decide +kernel
abbrev cX2_init : ByteArray := prog_1_method_1_code
def yX2_init : MethodName := ⟨RX2, "<init>", "()V"⟩
abbrev cX2_pass : ByteArray := prog_1_method_2_code
def yX2_pass : MethodName := ⟨RX2, "pass", "(I)I"⟩
abbrev cX2_rent : ByteArray := prog_1_method_3_code
def yX2_rent : MethodName := ⟨RX2, "rent", "(III)I"⟩
abbrev cX2_extend : ByteArray := prog_1_method_4_code
def yX2_extend : MethodName := ⟨RX2, "extend", "(II)I"⟩
abbrev cX2_giveBack : ByteArray := prog_1_method_5_code
def yX2_giveBack : MethodName := ⟨RX2, "giveBack", "(II)I"⟩
abbrev cX2_drill : ByteArray := prog_1_method_6_code
def yX2_drill : MethodName := ⟨RX2, "drill", "(III)I"⟩
abbrev cX2_fetch : ByteArray := prog_1_method_7_code
def yX2_fetch : MethodName := ⟨RX2, "fetch", "(II)I"⟩
abbrev cX2_proxy : ByteArray := prog_1_method_8_code
def yX2_proxy : MethodName := ⟨RX2, "proxy", "(IIII)I"⟩
abbrev cX2_heir : ByteArray := prog_1_method_9_code
def yX2_heir : MethodName := ⟨RX2, "heir", "(IIZ)Z"⟩
abbrev cX2_die : ByteArray := prog_1_method_10_code
def yX2_die : MethodName := ⟨RX2, "die", "(I)I"⟩
abbrev cX2_order : ByteArray := prog_1_method_11_code
def yX2_order : MethodName := ⟨RX2, "order", "(IIII)I"⟩
abbrev cX2_lift : ByteArray := prog_1_method_12_code
def yX2_lift : MethodName := ⟨RX2, "lift", "(I)Z"⟩
abbrev cX2_enter : ByteArray := prog_1_method_13_code
def yX2_enter : MethodName := ⟨RX2, "enter", "(III)I"⟩
abbrev cX2_may : ByteArray := prog_1_method_14_code
def yX2_may : MethodName := ⟨RX2, "may", "(II)I"⟩
abbrev cX2_mayAll : ByteArray := prog_1_method_15_code
def yX2_mayAll : MethodName := ⟨RX2, "mayAll", "(I)I"⟩
abbrev cX2_holder : ByteArray := prog_1_method_16_code
def yX2_holder : MethodName := ⟨RX2, "holder", "(I)I"⟩
abbrev cX2_notices : ByteArray := prog_1_method_17_code
def yX2_notices : MethodName := ⟨RX2, "notices", "(I)I"⟩
abbrev cX2_refusals : ByteArray := prog_1_method_18_code
def yX2_refusals : MethodName := ⟨RX2, "refusals", "(I)I"⟩
abbrev cX2_binding : ByteArray := prog_1_method_19_code
def yX2_binding : MethodName := ⟨RX2, "binding", "(I)I"⟩
abbrev cX2_requireRange : ByteArray := prog_1_method_20_code
def yX2_requireRange : MethodName := ⟨RX2, "requireRange", "(III)V"⟩
abbrev cX2_requirePerson : ByteArray := prog_1_method_21_code
def yX2_requirePerson : MethodName := ⟨RX2, "requirePerson", "(I)V"⟩
abbrev cX2_requireRented : ByteArray := prog_1_method_22_code
def yX2_requireRented : MethodName := ⟨RX2, "requireRented", "(LBoxVault$Box;)V"⟩
abbrev cX2_boxAt : ByteArray := prog_1_method_23_code
def yX2_boxAt : MethodName := ⟨RX2, "boxAt", "(I)LBoxVault$Box;"⟩
abbrev cX2_isPerson : ByteArray := prog_1_method_24_code
def yX2_isPerson : MethodName := ⟨RX2, "isPerson", "(I)Z"⟩
abbrev cX2_isAlive : ByteArray := prog_1_method_25_code
def yX2_isAlive : MethodName := ⟨RX2, "isAlive", "(I)Z"⟩
abbrev cX2_isHeir : ByteArray := prog_1_method_26_code
def yX2_isHeir : MethodName := ⟨RX2, "isHeir", "(II)Z"⟩
abbrev cX2_isHeirOfDead : ByteArray := prog_1_method_27_code
def yX2_isHeirOfDead : MethodName := ⟨RX2, "isHeirOfDead", "(II)Z"⟩
abbrev cX2_canWitness : ByteArray := prog_1_method_28_code
def yX2_canWitness : MethodName := ⟨RX2, "canWitness", "(LBoxVault$Box;I)Z"⟩
abbrev cX2_rightOf : ByteArray := prog_1_method_29_code
def yX2_rightOf : MethodName := ⟨RX2, "rightOf", "(ILBoxVault$Box;I)I"⟩
abbrev cX2_orderAllows : ByteArray := prog_1_method_30_code
def yX2_orderAllows : MethodName := ⟨RX2, "orderAllows", "(ILBoxVault$Box;I)Z"⟩
abbrev cX2_holderAllows : ByteArray := prog_1_method_31_code
def yX2_holderAllows : MethodName := ⟨RX2, "holderAllows", "(LBoxVault$Box;I)Z"⟩
abbrev cX2_mayFetch : ByteArray := prog_1_method_32_code
def yX2_mayFetch : MethodName := ⟨RX2, "mayFetch", "(ILBoxVault$Box;I)Z"⟩
abbrev cX2_makeFree : ByteArray := prog_1_method_33_code
def yX2_makeFree : MethodName := ⟨RX2, "makeFree", "(ILBoxVault$Box;)V"⟩
def RX3 : String := "BoxVaultModel"
def TX3 : u_T := fun k => match k with
  | 0 => ("BoxVaultModel", "thrown", "I", false)
  | 1 => ("BoxVaultModel", "now", "I", false)
  | 2 => ("BoxVaultModel", "dead", "[Z", true)
  | 3 => ("BoxVaultModel", "heirs", "[I", true)
  | 4 => ("BoxVaultModel", "refusals", "[I", true)
  | 5 => ("BoxVaultModel", "state", "[I", true)
  | 6 => ("BoxVaultModel", "holder", "[I", true)
  | 7 => ("BoxVaultModel", "paid", "[I", true)
  | 8 => ("BoxVaultModel", "entries", "[I", true)
  | 9 => ("BoxVaultModel", "looked", "[Z", true)
  | 10 => ("BoxVaultModel", "owed", "[I", true)
  | 11 => ("BoxVaultModel", "proxies", "[I", true)
  | 12 => ("BoxVaultModel", "proxy", "[I", true)
  | 13 => ("BoxVaultModel", "from", "[I", true)
  | 14 => ("BoxVaultModel", "to", "[I", true)
  | 15 => ("BoxVaultModel", "orders", "I", false)
  | 16 => ("BoxVaultModel", "at", "[I", true)
  | 17 => ("BoxVaultModel", "court", "[I", true)
  | 18 => ("BoxVaultModel", "kind", "[I", true)
  | 19 => ("BoxVaultModel", "alone", "[I", true)
  | _ => ("BoxVaultModel", "holds", "[Z", true)
def tyX3 : Nat → FieldType := fun k => match k with
  | 0 => .int
  | 1 => .int
  | 2 => .array .boolean
  | 3 => .array .int
  | 4 => .array .int
  | 5 => .array .int
  | 6 => .array .int
  | 7 => .array .int
  | 8 => .array .int
  | 9 => .array .boolean
  | 10 => .array .int
  | 11 => .array .int
  | 12 => .array .int
  | 13 => .array .int
  | 14 => .array .int
  | 15 => .int
  | 16 => .array .int
  | 17 => .array .int
  | 18 => .array .int
  | 19 => .array .int
  | _ => .array .boolean
abbrev wsX30 : List Cond := u_ws RX3 TX3 21
theorem nmX3 : ∀ a, a < 21 → ∀ b, b < 21 → a ≠ b → (TX3 a).2.1 ≠ (TX3 b).2.1 := by decide +kernel
theorem tyX3_ok : ∀ k, k < 21 → parseFieldDescriptor (TX3 k).2.2.1 = some (tyX3 k) := by decide +kernel
abbrev cX3_init : ByteArray := prog_5_method_1_code
def yX3_init : MethodName := ⟨RX3, "<init>", "()V"⟩
abbrev cX3_thrown : ByteArray := prog_5_method_2_code
def yX3_thrown : MethodName := ⟨RX3, "thrown", "()I"⟩
abbrev cX3_fails : ByteArray := prog_5_method_3_code
def yX3_fails : MethodName := ⟨RX3, "fails", "(I)I"⟩
abbrev cX3_in : ByteArray := prog_5_method_4_code
def yX3_in : MethodName := ⟨RX3, "in", "(III)Z"⟩
abbrev cX3_isBox : ByteArray := prog_5_method_5_code
def yX3_isBox : MethodName := ⟨RX3, "isBox", "(I)Z"⟩
abbrev cX3_isPerson : ByteArray := prog_5_method_6_code
def yX3_isPerson : MethodName := ⟨RX3, "isPerson", "(I)Z"⟩
abbrev cX3_isRented : ByteArray := prog_5_method_7_code
def yX3_isRented : MethodName := ⟨RX3, "isRented", "(I)Z"⟩
abbrev cX3_overdue : ByteArray := prog_5_method_8_code
def yX3_overdue : MethodName := ⟨RX3, "overdue", "(I)I"⟩
abbrev cX3_noticesOf : ByteArray := prog_5_method_9_code
def yX3_noticesOf : MethodName := ⟨RX3, "noticesOf", "(I)I"⟩
abbrev cX3_binds : ByteArray := prog_5_method_10_code
def yX3_binds : MethodName := ⟨RX3, "binds", "(I)I"⟩
abbrev cX3_isHeir : ByteArray := prog_5_method_11_code
def yX3_isHeir : MethodName := ⟨RX3, "isHeir", "(II)Z"⟩
abbrev cX3_isOrdered : ByteArray := prog_5_method_12_code
def yX3_isOrdered : MethodName := ⟨RX3, "isOrdered", "(II)Z"⟩
abbrev cX3_isProxy : ByteArray := prog_5_method_13_code
def yX3_isProxy : MethodName := ⟨RX3, "isProxy", "(II)Z"⟩
abbrev cX3_right : ByteArray := prog_5_method_14_code
def yX3_right : MethodName := ⟨RX3, "right", "(II)I"⟩
abbrev cX3_frees : ByteArray := prog_5_method_15_code
def yX3_frees : MethodName := ⟨RX3, "frees", "(I)V"⟩
abbrev cX3_pass : ByteArray := prog_5_method_16_code
def yX3_pass : MethodName := ⟨RX3, "pass", "(I)I"⟩
abbrev cX3_rent : ByteArray := prog_5_method_17_code
def yX3_rent : MethodName := ⟨RX3, "rent", "(III)I"⟩
abbrev cX3_extend : ByteArray := prog_5_method_18_code
def yX3_extend : MethodName := ⟨RX3, "extend", "(II)I"⟩
abbrev cX3_giveBack : ByteArray := prog_5_method_19_code
def yX3_giveBack : MethodName := ⟨RX3, "giveBack", "(II)I"⟩
abbrev cX3_drill : ByteArray := prog_5_method_20_code
def yX3_drill : MethodName := ⟨RX3, "drill", "(III)I"⟩
abbrev cX3_fetch : ByteArray := prog_5_method_21_code
def yX3_fetch : MethodName := ⟨RX3, "fetch", "(II)I"⟩
abbrev cX3_proxy : ByteArray := prog_5_method_22_code
def yX3_proxy : MethodName := ⟨RX3, "proxy", "(IIII)I"⟩
abbrev cX3_heir : ByteArray := prog_5_method_23_code
def yX3_heir : MethodName := ⟨RX3, "heir", "(IIZ)Z"⟩
abbrev cX3_die : ByteArray := prog_5_method_24_code
def yX3_die : MethodName := ⟨RX3, "die", "(I)I"⟩
abbrev cX3_order : ByteArray := prog_5_method_25_code
def yX3_order : MethodName := ⟨RX3, "order", "(IIII)I"⟩
abbrev cX3_lift : ByteArray := prog_5_method_26_code
def yX3_lift : MethodName := ⟨RX3, "lift", "(I)Z"⟩
abbrev cX3_enter : ByteArray := prog_5_method_27_code
def yX3_enter : MethodName := ⟨RX3, "enter", "(III)I"⟩
abbrev cX3_may : ByteArray := prog_5_method_28_code
def yX3_may : MethodName := ⟨RX3, "may", "(II)I"⟩
abbrev cX3_mayAll : ByteArray := prog_5_method_29_code
def yX3_mayAll : MethodName := ⟨RX3, "mayAll", "(I)I"⟩
abbrev cX3_holder : ByteArray := prog_5_method_30_code
def yX3_holder : MethodName := ⟨RX3, "holder", "(I)I"⟩
abbrev cX3_notices : ByteArray := prog_5_method_31_code
def yX3_notices : MethodName := ⟨RX3, "notices", "(I)I"⟩
abbrev cX3_refusals : ByteArray := prog_5_method_32_code
def yX3_refusals : MethodName := ⟨RX3, "refusals", "(I)I"⟩
abbrev cX3_binding : ByteArray := prog_5_method_33_code
def yX3_binding : MethodName := ⟨RX3, "binding", "(I)I"⟩
def RJ9 : String := "java/lang/Math"
def TJ9 : u_T := fun k => match k with
  | _ => ("", "", "", false)
def tyJ9 : Nat → FieldType := fun k => match k with
  | _ => .int
abbrev wsJ90 : List Cond := u_ws RJ9 TJ9 0
theorem nmJ9 : ∀ a, a < 0 → ∀ b, b < 0 → a ≠ b → (TJ9 a).2.1 ≠ (TJ9 b).2.1 := by decide +kernel
theorem tyJ9_ok : ∀ k, k < 0 → parseFieldDescriptor (TJ9 k).2.2.1 = some (tyJ9 k) := by decide +kernel
abbrev cJ9_max_7cf53 : ByteArray := prog_10_method_65_code
def yJ9_max_7cf53 : MethodName := ⟨RJ9, "max", "(II)I"⟩
abbrev cJ9_min_7cf53 : ByteArray := prog_10_method_69_code
def yJ9_min_7cf53 : MethodName := ⟨RJ9, "min", "(II)I"⟩
def RJ0 : String := "java/lang/String"
def TJ0 : u_T := fun k => match k with
  | _ => ("", "", "", false)
def tyJ0 : Nat → FieldType := fun k => match k with
  | _ => .int
abbrev wsJ00 : List Cond := u_ws RJ0 TJ0 0
theorem nmJ0 : ∀ a, a < 0 → ∀ b, b < 0 → a ≠ b → (TJ0 a).2.1 ≠ (TJ0 b).2.1 := by decide +kernel
theorem tyJ0_ok : ∀ k, k < 0 → parseFieldDescriptor (TJ0 k).2.2.1 = some (tyJ0 k) := by decide +kernel
def RL : String := "BoxVaultLaw"
abbrev cL_pass : ByteArray := method_3_code
def yL_pass : MethodName := ⟨RL, "pass", "(LBoxVault;I[J)I"⟩
abbrev cL_rent : ByteArray := method_4_code
def yL_rent : MethodName := ⟨RL, "rent", "(LBoxVault;III[J)I"⟩
abbrev cL_extend : ByteArray := method_5_code
def yL_extend : MethodName := ⟨RL, "extend", "(LBoxVault;II[J)I"⟩
abbrev cL_giveBack : ByteArray := method_6_code
def yL_giveBack : MethodName := ⟨RL, "giveBack", "(LBoxVault;II[J)I"⟩
abbrev cL_drill : ByteArray := method_7_code
def yL_drill : MethodName := ⟨RL, "drill", "(LBoxVault;III[J)I"⟩
abbrev cL_fetch : ByteArray := method_8_code
def yL_fetch : MethodName := ⟨RL, "fetch", "(LBoxVault;II[J)I"⟩
abbrev cL_proxy : ByteArray := method_9_code
def yL_proxy : MethodName := ⟨RL, "proxy", "(LBoxVault;IIII[J)I"⟩
abbrev cL_heir : ByteArray := method_10_code
def yL_heir : MethodName := ⟨RL, "heir", "(LBoxVault;IIZ[J)I"⟩
abbrev cL_die : ByteArray := method_11_code
def yL_die : MethodName := ⟨RL, "die", "(LBoxVault;I[J)I"⟩
abbrev cL_order : ByteArray := method_12_code
def yL_order : MethodName := ⟨RL, "order", "(LBoxVault;IIII[J)I"⟩
abbrev cL_lift : ByteArray := method_13_code
def yL_lift : MethodName := ⟨RL, "lift", "(LBoxVault;I[J)I"⟩
abbrev cL_enter : ByteArray := method_14_code
def yL_enter : MethodName := ⟨RL, "enter", "(LBoxVault;III[J)I"⟩
abbrev cL_may : ByteArray := method_15_code
def yL_may : MethodName := ⟨RL, "may", "(LBoxVault;II[J)I"⟩
abbrev cL_mayAll : ByteArray := method_16_code
def yL_mayAll : MethodName := ⟨RL, "mayAll", "(LBoxVault;I[J)I"⟩
abbrev cL_holder : ByteArray := method_17_code
def yL_holder : MethodName := ⟨RL, "holder", "(LBoxVault;I[J)I"⟩
abbrev cL_notices : ByteArray := method_18_code
def yL_notices : MethodName := ⟨RL, "notices", "(LBoxVault;I[J)I"⟩
abbrev cL_refusals : ByteArray := method_19_code
def yL_refusals : MethodName := ⟨RL, "refusals", "(LBoxVault;I[J)I"⟩
abbrev cL_binding : ByteArray := method_20_code
def yL_binding : MethodName := ⟨RL, "binding", "(LBoxVault;I[J)I"⟩
abbrev cL_law : ByteArray := code
def yL_law : MethodName := ⟨RL, "law", "([I)Z"⟩
def wsX0_init : List Cond := .code yX0_init cX0_init 1 none :: ([.methodLink RX0 3 objectInit, .instanceMethod objectInit, .code objectInit ⟨#[0xb1]⟩ 1 none, .fieldLink RX0 11 "BoxVault$Box" "state" "I", .fieldLink RX0 15 "BoxVault$Box" "holder" "I", .fieldLink RX0 18 "BoxVault$Box" "paidUpTo" "I", .fieldLink RX0 21 "BoxVault$Box" "unpaidDays" "I", .fieldLink RX0 24 "BoxVault$Box" "entries" "I", .fieldLink RX0 27 "BoxVault$Box" "willSought" "Z", .fieldLink RX0 31 "BoxVault$Box" "proxyCount" "I", .arrayClass .int, .fieldLink RX0 34 "BoxVault$Box" "proxyPerson" "[I", .fieldLink RX0 38 "BoxVault$Box" "proxyFirst" "[I", .fieldLink RX0 41 "BoxVault$Box" "proxyLast" "[I"] ++ wsX00)
def wsX0_isFree : List Cond := .code yX0_isFree cX0_isFree 1 (some .boolean) :: ([.fieldLink RX0 11 "BoxVault$Box" "state" "I"] ++ wsX00)
def wsX0_isRented : List Cond := .code yX0_isRented cX0_isRented 1 (some .boolean) :: ([.fieldLink RX0 11 "BoxVault$Box" "state" "I"] ++ wsX00)
def wsX0_startRent : List Cond := .code yX0_startRent cX0_startRent 3 none :: ([.fieldLink RX0 11 "BoxVault$Box" "state" "I", .fieldLink RX0 15 "BoxVault$Box" "holder" "I", .fieldLink RX0 18 "BoxVault$Box" "paidUpTo" "I", .fieldLink RX0 24 "BoxVault$Box" "entries" "I", .fieldLink RX0 27 "BoxVault$Box" "willSought" "Z"] ++ wsX00)
def wsX0_overdueOn : List Cond := .code yX0_overdueOn cX0_overdueOn 2 (some .int) :: ([.fieldLink RX0 18 "BoxVault$Box" "paidUpTo" "I", .methodLink RX0 51 Lib.Math.max.name, .static Lib.Math.max.name, .initialized "java/lang/Math", .code Lib.Math.max.name Lib.Math.max.code 2 (some .int)] ++ wsX00)
def wsX0_breakOpen : List Cond := .code yX0_breakOpen cX0_breakOpen 2 none :: ([.fieldLink RX0 11 "BoxVault$Box" "state" "I", .fieldLink RX0 21 "BoxVault$Box" "unpaidDays" "I", .methodLink RX0 44 yX0_overdueOn, .instanceMethod yX0_overdueOn, .selects RX0 yX0_overdueOn yX0_overdueOn, .initialized RX0, .code yX0_overdueOn cX0_overdueOn 2 (some .int), .fieldLink RX0 18 "BoxVault$Box" "paidUpTo" "I", .methodLink RX0 51 Lib.Math.max.name, .static Lib.Math.max.name, .initialized "java/lang/Math", .code Lib.Math.max.name Lib.Math.max.code 2 (some .int)] ++ wsX00)
def wsX0_endProxies : List Cond := .code yX0_endProxies cX0_endProxies 1 none :: ([.fieldLink RX0 31 "BoxVault$Box" "proxyCount" "I"] ++ wsX00)
def wsX0_empty : List Cond := .code yX0_empty cX0_empty 1 none :: ([.fieldLink RX0 11 "BoxVault$Box" "state" "I", .fieldLink RX0 15 "BoxVault$Box" "holder" "I", .methodLink RX0 48 yX0_endProxies, .instanceMethod yX0_endProxies, .selects RX0 yX0_endProxies yX0_endProxies, .initialized RX0, .code yX0_endProxies cX0_endProxies 1 none, .fieldLink RX0 31 "BoxVault$Box" "proxyCount" "I"] ++ wsX00)
def wsX0_noticesOn : List Cond := .code yX0_noticesOn cX0_noticesOn 2 (some .int) :: ([.methodLink RX0 57 Lib.Math.min.name, .static Lib.Math.min.name, .initialized "java/lang/Math", .code Lib.Math.min.name Lib.Math.min.code 2 (some .int), .methodLink RX0 44 yX0_overdueOn, .instanceMethod yX0_overdueOn, .selects RX0 yX0_overdueOn yX0_overdueOn, .initialized RX0, .code yX0_overdueOn cX0_overdueOn 2 (some .int), .fieldLink RX0 18 "BoxVault$Box" "paidUpTo" "I", .methodLink RX0 51 Lib.Math.max.name, .static Lib.Math.max.name, .code Lib.Math.max.name Lib.Math.max.code 2 (some .int)] ++ wsX00)
def wsX0_addProxy : List Cond := .code yX0_addProxy cX0_addProxy 4 none :: ([.fieldLink RX0 31 "BoxVault$Box" "proxyCount" "I", .fieldLink RX0 34 "BoxVault$Box" "proxyPerson" "[I", .fieldLink RX0 38 "BoxVault$Box" "proxyFirst" "[I", .fieldLink RX0 41 "BoxVault$Box" "proxyLast" "[I"] ++ wsX00)
def wsX0_hasProxyOn : List Cond := .code yX0_hasProxyOn cX0_hasProxyOn 4 (some .boolean) :: ([.fieldLink RX0 31 "BoxVault$Box" "proxyCount" "I", .fieldLink RX0 34 "BoxVault$Box" "proxyPerson" "[I", .fieldLink RX0 38 "BoxVault$Box" "proxyFirst" "[I", .fieldLink RX0 41 "BoxVault$Box" "proxyLast" "[I"] ++ wsX00)
def wsX1_init : List Cond := .code yX1_init cX1_init 1 none :: ([.methodLink RX1 3 objectInit, .instanceMethod objectInit, .code objectInit ⟨#[0xb1]⟩ 1 none, .fieldLink RX1 9 "BoxVault$OrderBook" "count" "I", .arrayClass .int, .fieldLink RX1 15 "BoxVault$OrderBook" "box" "[I", .fieldLink RX1 19 "BoxVault$OrderBook" "court" "[I", .fieldLink RX1 22 "BoxVault$OrderBook" "kind" "[I", .fieldLink RX1 25 "BoxVault$OrderBook" "person" "[I", .arrayClass .boolean, .fieldLink RX1 28 "BoxVault$OrderBook" "holds" "[Z"] ++ wsX10)
def wsX1_isFull : List Cond := .code yX1_isFull cX1_isFull 1 (some .boolean) :: ([.fieldLink RX1 9 "BoxVault$OrderBook" "count" "I"] ++ wsX10)
def wsX1_has : List Cond := .code yX1_has cX1_has 2 (some .boolean) :: ([.fieldLink RX1 9 "BoxVault$OrderBook" "count" "I"] ++ wsX10)
def wsX1_add : List Cond := .code yX1_add cX1_add 6 (some .int) :: ([.fieldLink RX1 9 "BoxVault$OrderBook" "count" "I", .fieldLink RX1 15 "BoxVault$OrderBook" "box" "[I", .fieldLink RX1 19 "BoxVault$OrderBook" "court" "[I", .fieldLink RX1 22 "BoxVault$OrderBook" "kind" "[I", .fieldLink RX1 25 "BoxVault$OrderBook" "person" "[I", .fieldLink RX1 28 "BoxVault$OrderBook" "holds" "[Z"] ++ wsX10)
def wsX1_isInForce : List Cond := .code yX1_isInForce cX1_isInForce 2 (some .boolean) :: ([.fieldLink RX1 28 "BoxVault$OrderBook" "holds" "[Z", .methodLink RX1 32 yX1_has, .instanceMethod yX1_has, .selects RX1 yX1_has yX1_has, .initialized RX1, .code yX1_has cX1_has 2 (some .boolean), .fieldLink RX1 9 "BoxVault$OrderBook" "count" "I"] ++ wsX10)
def wsX1_bindingOn : List Cond := .code yX1_bindingOn cX1_bindingOn 4 (some .int) :: ([.fieldLink RX1 9 "BoxVault$OrderBook" "count" "I", .fieldLink RX1 28 "BoxVault$OrderBook" "holds" "[Z", .fieldLink RX1 15 "BoxVault$OrderBook" "box" "[I", .fieldLink RX1 19 "BoxVault$OrderBook" "court" "[I"] ++ wsX10)
def wsX1_isBinding : List Cond := .code yX1_isBinding cX1_isBinding 2 (some .boolean) :: ([.fieldLink RX1 15 "BoxVault$OrderBook" "box" "[I", .methodLink RX1 32 yX1_has, .instanceMethod yX1_has, .selects RX1 yX1_has yX1_has, .initialized RX1, .code yX1_has cX1_has 2 (some .boolean), .fieldLink RX1 9 "BoxVault$OrderBook" "count" "I", .methodLink RX1 36 yX1_bindingOn, .instanceMethod yX1_bindingOn, .selects RX1 yX1_bindingOn yX1_bindingOn, .code yX1_bindingOn cX1_bindingOn 4 (some .int), .fieldLink RX1 28 "BoxVault$OrderBook" "holds" "[Z", .fieldLink RX1 19 "BoxVault$OrderBook" "court" "[I"] ++ wsX10)
def wsX1_end : List Cond := .code yX1_end cX1_end 2 none :: ([.fieldLink RX1 28 "BoxVault$OrderBook" "holds" "[Z", .methodLink RX1 32 yX1_has, .instanceMethod yX1_has, .selects RX1 yX1_has yX1_has, .initialized RX1, .code yX1_has cX1_has 2 (some .boolean), .fieldLink RX1 9 "BoxVault$OrderBook" "count" "I"] ++ wsX10)
def wsX1_kindOf : List Cond := .code yX1_kindOf cX1_kindOf 2 (some .int) :: ([.fieldLink RX1 22 "BoxVault$OrderBook" "kind" "[I", .methodLink RX1 32 yX1_has, .instanceMethod yX1_has, .selects RX1 yX1_has yX1_has, .initialized RX1, .code yX1_has cX1_has 2 (some .boolean), .fieldLink RX1 9 "BoxVault$OrderBook" "count" "I"] ++ wsX10)
def wsX1_personOf : List Cond := .code yX1_personOf cX1_personOf 2 (some .int) :: ([.fieldLink RX1 25 "BoxVault$OrderBook" "person" "[I", .methodLink RX1 32 yX1_has, .instanceMethod yX1_has, .selects RX1 yX1_has yX1_has, .initialized RX1, .code yX1_has cX1_has 2 (some .boolean), .fieldLink RX1 9 "BoxVault$OrderBook" "count" "I"] ++ wsX10)
def wsX1_endAllOn : List Cond := .code yX1_endAllOn cX1_endAllOn 3 none :: ([.fieldLink RX1 9 "BoxVault$OrderBook" "count" "I", .fieldLink RX1 15 "BoxVault$OrderBook" "box" "[I", .fieldLink RX1 28 "BoxVault$OrderBook" "holds" "[Z"] ++ wsX10)
def wsX2_init_r1 : List Cond := [Cond.methodLink RX2 1 objectInit, Cond.instanceMethod objectInit, Cond.code objectInit ⟨#[0xb1]⟩ 1 none, Cond.classLink RX2 9 RX0, Cond.fieldLink RX2 11 "BoxVault" "boxes" "[LBoxVault$Box;", Cond.classLink RX2 15 RX1, Cond.instantiable RX1 6, Cond.initialized RX1, Cond.fieldLink RX2 18 "BoxVault" "orders" "LBoxVault$OrderBook;", Cond.arrayClass .boolean, Cond.fieldLink RX2 22 "BoxVault" "dead" "[Z", Cond.arrayClass .int, Cond.fieldLink RX2 26 "BoxVault" "heirs" "[I", Cond.fieldLink RX2 30 "BoxVault" "refused" "[I", Cond.fieldLink RX2 33 "BoxVault" "today" "I", Cond.instantiable RX0 10, Cond.initialized RX0, Cond.instanceMethod yX1_init, Cond.code yX1_init cX1_init 1 none, Cond.methodLink RX1 3 objectInit, Cond.fieldLink RX1 9 "BoxVault$OrderBook" "count" "I", Cond.fieldLink RX1 15 "BoxVault$OrderBook" "box" "[I", Cond.fieldLink RX1 19 "BoxVault$OrderBook" "court" "[I", Cond.fieldLink RX1 22 "BoxVault$OrderBook" "kind" "[I"]
def wsX2_init_r2 : List Cond := [Cond.fieldLink RX1 25 "BoxVault$OrderBook" "person" "[I", Cond.fieldLink RX1 28 "BoxVault$OrderBook" "holds" "[Z", Cond.instanceMethod yX0_init, Cond.code yX0_init cX0_init 1 none, Cond.methodLink RX0 3 objectInit, Cond.fieldLink RX0 11 "BoxVault$Box" "state" "I", Cond.fieldLink RX0 15 "BoxVault$Box" "holder" "I", Cond.fieldLink RX0 18 "BoxVault$Box" "paidUpTo" "I", Cond.fieldLink RX0 21 "BoxVault$Box" "unpaidDays" "I", Cond.fieldLink RX0 24 "BoxVault$Box" "entries" "I", Cond.fieldLink RX0 27 "BoxVault$Box" "willSought" "Z", Cond.fieldLink RX0 31 "BoxVault$Box" "proxyCount" "I", Cond.fieldLink RX0 34 "BoxVault$Box" "proxyPerson" "[I", Cond.fieldLink RX0 38 "BoxVault$Box" "proxyFirst" "[I", Cond.fieldLink RX0 41 "BoxVault$Box" "proxyLast" "[I"]
def wsX2_init : List Cond := .code yX2_init cX2_init 2 none :: ((wsX2_init_r1 ++ wsX2_init_r2) ++ wsX20 ++ wsX10 ++ wsX00)
def wsX2_requireRange : List Cond := .code yX2_requireRange cX2_requireRange 3 none :: ([.classLink RX2 94 "java/lang/IllegalArgumentException", .initialized "java/lang/IllegalArgumentException"] ++ (vx_atS RX2 98 "java/lang/IllegalArgumentException" ["java/lang/RuntimeException", "java/lang/Exception"]).filter goodWord)
def wsX2_pass : List Cond := .code yX2_pass cX2_pass 2 (some .int) :: ([.classLink RX2 43 "java/lang/IllegalStateException", .initialized "java/lang/IllegalStateException", .constant RX2 42 (99999), .fieldLink RX2 33 "BoxVault" "today" "I", .methodLink RX2 38 yX2_requireRange, .static yX2_requireRange, .initialized RX2, .code yX2_requireRange cX2_requireRange 3 none, .classLink RX2 94 "java/lang/IllegalArgumentException", .initialized "java/lang/IllegalArgumentException"] ++ wsX20 ++ (vx_atS RX2 47 "java/lang/IllegalStateException" ["java/lang/RuntimeException", "java/lang/Exception"]).filter goodWord ++ (vx_atS RX2 98 "java/lang/IllegalArgumentException" ["java/lang/RuntimeException", "java/lang/Exception"]).filter goodWord)
def wsX2_boxAt : List Cond := .code yX2_boxAt cX2_boxAt 2 (some (.object "BoxVault$Box")) :: ([.fieldLink RX2 11 "BoxVault" "boxes" "[LBoxVault$Box;", .methodLink RX2 38 yX2_requireRange, .static yX2_requireRange, .initialized RX2, .code yX2_requireRange cX2_requireRange 3 none, .classLink RX2 94 "java/lang/IllegalArgumentException", .initialized "java/lang/IllegalArgumentException"] ++ wsX20 ++ (vx_atS RX2 98 "java/lang/IllegalArgumentException" ["java/lang/RuntimeException", "java/lang/Exception"]).filter goodWord)
def wsX2_requirePerson : List Cond := .code yX2_requirePerson cX2_requirePerson 1 none :: ([.methodLink RX2 38 yX2_requireRange, .static yX2_requireRange, .initialized RX2, .code yX2_requireRange cX2_requireRange 3 none, .classLink RX2 94 "java/lang/IllegalArgumentException", .initialized "java/lang/IllegalArgumentException"] ++ (vx_atS RX2 98 "java/lang/IllegalArgumentException" ["java/lang/RuntimeException", "java/lang/Exception"]).filter goodWord)
def wsX2_isPerson : List Cond := .code yX2_isPerson cX2_isPerson 1 (some .boolean) :: ([])
def wsX2_isAlive : List Cond := .code yX2_isAlive cX2_isAlive 2 (some .boolean) :: ([.fieldLink RX2 22 "BoxVault" "dead" "[Z", .methodLink RX2 201 yX2_isPerson, .static yX2_isPerson, .initialized RX2, .code yX2_isPerson cX2_isPerson 1 (some .boolean)] ++ wsX20)
def wsX2_rent_r1 : List Cond := [Cond.classLink RX2 43 "java/lang/IllegalStateException", Cond.initialized "java/lang/IllegalStateException", Cond.fieldLink RX2 33 "BoxVault" "today" "I", Cond.methodLink RX2 50 yX2_boxAt, Cond.instanceMethod yX2_boxAt, Cond.selects RX2 yX2_boxAt yX2_boxAt, Cond.initialized RX2, Cond.code yX2_boxAt cX2_boxAt 2 (some (.object "BoxVault$Box")), Cond.fieldLink RX2 11 "BoxVault" "boxes" "[LBoxVault$Box;", Cond.methodLink RX2 38 yX2_requireRange, Cond.static yX2_requireRange, Cond.code yX2_requireRange cX2_requireRange 3 none, Cond.classLink RX2 94 "java/lang/IllegalArgumentException", Cond.initialized "java/lang/IllegalArgumentException", Cond.methodLink RX2 54 yX2_requirePerson, Cond.static yX2_requirePerson, Cond.code yX2_requirePerson cX2_requirePerson 1 none, Cond.instanceMethod yX0_isFree, Cond.initialized RX0, Cond.selects RX0 yX0_isFree yX0_isFree, Cond.code yX0_isFree cX0_isFree 1 (some .boolean), Cond.fieldLink RX0 11 "BoxVault$Box" "state" "I", Cond.methodLink RX2 64 yX2_isAlive, Cond.instanceMethod yX2_isAlive]
def wsX2_rent_r2 : List Cond := [Cond.selects RX2 yX2_isAlive yX2_isAlive, Cond.code yX2_isAlive cX2_isAlive 2 (some .boolean), Cond.fieldLink RX2 22 "BoxVault" "dead" "[Z", Cond.methodLink RX2 201 yX2_isPerson, Cond.static yX2_isPerson, Cond.code yX2_isPerson cX2_isPerson 1 (some .boolean), Cond.instanceMethod yX0_startRent, Cond.selects RX0 yX0_startRent yX0_startRent, Cond.code yX0_startRent cX0_startRent 3 none, Cond.fieldLink RX0 15 "BoxVault$Box" "holder" "I", Cond.fieldLink RX0 18 "BoxVault$Box" "paidUpTo" "I", Cond.fieldLink RX0 24 "BoxVault$Box" "entries" "I", Cond.fieldLink RX0 27 "BoxVault$Box" "willSought" "Z"]
def wsX2_rent : List Cond := .code yX2_rent cX2_rent 5 (some .int) :: ((wsX2_rent_r1 ++ wsX2_rent_r2) ++ wsX20 ++ wsX00 ++ (vx_atS RX2 47 "java/lang/IllegalStateException" ["java/lang/RuntimeException", "java/lang/Exception"]).filter goodWord ++ (vx_atS RX2 98 "java/lang/IllegalArgumentException" ["java/lang/RuntimeException", "java/lang/Exception"]).filter goodWord)
def wsX2_requireRented : List Cond := .code yX2_requireRented cX2_requireRented 1 none :: ([.classLink RX2 43 "java/lang/IllegalStateException", .initialized "java/lang/IllegalStateException", .instanceMethod yX0_isRented, .initialized RX0, .selects RX0 yX0_isRented yX0_isRented, .code yX0_isRented cX0_isRented 1 (some .boolean), .fieldLink RX0 11 "BoxVault$Box" "state" "I"] ++ wsX00 ++ (vx_atS RX2 47 "java/lang/IllegalStateException" ["java/lang/RuntimeException", "java/lang/Exception"]).filter goodWord)
def wsX2_extend : List Cond := .code yX2_extend cX2_extend 4 (some .int) :: ([.methodLink RX2 50 yX2_boxAt, .instanceMethod yX2_boxAt, .selects RX2 yX2_boxAt yX2_boxAt, .initialized RX2, .code yX2_boxAt cX2_boxAt 2 (some (.object "BoxVault$Box")), .fieldLink RX2 11 "BoxVault" "boxes" "[LBoxVault$Box;", .methodLink RX2 38 yX2_requireRange, .static yX2_requireRange, .code yX2_requireRange cX2_requireRange 3 none, .classLink RX2 94 "java/lang/IllegalArgumentException", .initialized "java/lang/IllegalArgumentException", .methodLink RX2 77 yX2_requireRented, .static yX2_requireRented, .code yX2_requireRented cX2_requireRented 1 none, .classLink RX2 43 "java/lang/IllegalStateException", .initialized "java/lang/IllegalStateException", .instanceMethod yX0_isRented, .initialized RX0, .selects RX0 yX0_isRented yX0_isRented, .code yX0_isRented cX0_isRented 1 (some .boolean), .fieldLink RX0 11 "BoxVault$Box" "state" "I"] ++ wsX00 ++ wsX20 ++ (vx_atS RX2 98 "java/lang/IllegalArgumentException" ["java/lang/RuntimeException", "java/lang/Exception"]).filter goodWord ++ (vx_atS RX2 47 "java/lang/IllegalStateException" ["java/lang/RuntimeException", "java/lang/Exception"]).filter goodWord)
def wsX2_isHeir : List Cond := .code yX2_isHeir cX2_isHeir 3 (some .boolean) :: ([.fieldLink RX2 26 "BoxVault" "heirs" "[I", .methodLink RX2 201 yX2_isPerson, .static yX2_isPerson, .initialized RX2, .code yX2_isPerson cX2_isPerson 1 (some .boolean)] ++ wsX20)
def wsX2_isHeirOfDead : List Cond := .code yX2_isHeirOfDead cX2_isHeirOfDead 3 (some .boolean) :: ([.methodLink RX2 64 yX2_isAlive, .instanceMethod yX2_isAlive, .selects RX2 yX2_isAlive yX2_isAlive, .initialized RX2, .code yX2_isAlive cX2_isAlive 2 (some .boolean), .fieldLink RX2 22 "BoxVault" "dead" "[Z", .methodLink RX2 201 yX2_isPerson, .static yX2_isPerson, .code yX2_isPerson cX2_isPerson 1 (some .boolean), .methodLink RX2 153 yX2_isHeir, .instanceMethod yX2_isHeir, .selects RX2 yX2_isHeir yX2_isHeir, .code yX2_isHeir cX2_isHeir 3 (some .boolean), .fieldLink RX2 26 "BoxVault" "heirs" "[I"] ++ wsX20)
def wsX2_orderAllows_r1 : List Cond := [Cond.fieldLink RX2 18 "BoxVault" "orders" "LBoxVault$OrderBook;", Cond.instanceMethod yX1_kindOf, Cond.initialized RX1, Cond.selects RX1 yX1_kindOf yX1_kindOf, Cond.code yX1_kindOf cX1_kindOf 2 (some .int), Cond.fieldLink RX1 22 "BoxVault$OrderBook" "kind" "[I", Cond.methodLink RX1 32 yX1_has, Cond.instanceMethod yX1_has, Cond.selects RX1 yX1_has yX1_has, Cond.code yX1_has cX1_has 2 (some .boolean), Cond.fieldLink RX1 9 "BoxVault$OrderBook" "count" "I", Cond.instanceMethod yX1_personOf, Cond.selects RX1 yX1_personOf yX1_personOf, Cond.code yX1_personOf cX1_personOf 2 (some .int), Cond.fieldLink RX1 25 "BoxVault$OrderBook" "person" "[I", Cond.methodLink RX2 213 yX2_isHeirOfDead, Cond.instanceMethod yX2_isHeirOfDead, Cond.selects RX2 yX2_isHeirOfDead yX2_isHeirOfDead, Cond.initialized RX2, Cond.code yX2_isHeirOfDead cX2_isHeirOfDead 3 (some .boolean), Cond.methodLink RX2 64 yX2_isAlive, Cond.instanceMethod yX2_isAlive, Cond.selects RX2 yX2_isAlive yX2_isAlive, Cond.code yX2_isAlive cX2_isAlive 2 (some .boolean)]
def wsX2_orderAllows_r2 : List Cond := [Cond.fieldLink RX2 22 "BoxVault" "dead" "[Z", Cond.methodLink RX2 201 yX2_isPerson, Cond.static yX2_isPerson, Cond.code yX2_isPerson cX2_isPerson 1 (some .boolean), Cond.methodLink RX2 153 yX2_isHeir, Cond.instanceMethod yX2_isHeir, Cond.selects RX2 yX2_isHeir yX2_isHeir, Cond.code yX2_isHeir cX2_isHeir 3 (some .boolean), Cond.fieldLink RX2 26 "BoxVault" "heirs" "[I"]
def wsX2_orderAllows : List Cond := .code yX2_orderAllows cX2_orderAllows 4 (some .boolean) :: ((wsX2_orderAllows_r1 ++ wsX2_orderAllows_r2) ++ wsX20 ++ wsX00 ++ wsX10)
def wsX2_holderAllows : List Cond := .code yX2_holderAllows cX2_holderAllows 3 (some .boolean) :: ([.fieldLink RX2 33 "BoxVault" "today" "I", .instanceMethod yX0_noticesOn, .initialized RX0, .selects RX0 yX0_noticesOn yX0_noticesOn, .code yX0_noticesOn cX0_noticesOn 2 (some .int), .methodLink RX0 57 Lib.Math.min.name, .static Lib.Math.min.name, .initialized "java/lang/Math", .code Lib.Math.min.name Lib.Math.min.code 2 (some .int), .methodLink RX0 44 yX0_overdueOn, .instanceMethod yX0_overdueOn, .selects RX0 yX0_overdueOn yX0_overdueOn, .code yX0_overdueOn cX0_overdueOn 2 (some .int), .fieldLink RX0 18 "BoxVault$Box" "paidUpTo" "I", .methodLink RX0 51 Lib.Math.max.name, .static Lib.Math.max.name, .code Lib.Math.max.name Lib.Math.max.code 2 (some .int), .instanceMethod yX0_hasProxyOn, .selects RX0 yX0_hasProxyOn yX0_hasProxyOn, .code yX0_hasProxyOn cX0_hasProxyOn 4 (some .boolean), .fieldLink RX0 31 "BoxVault$Box" "proxyCount" "I", .fieldLink RX0 34 "BoxVault$Box" "proxyPerson" "[I", .fieldLink RX0 38 "BoxVault$Box" "proxyFirst" "[I", .fieldLink RX0 41 "BoxVault$Box" "proxyLast" "[I"] ++ wsX20 ++ wsX00)
def wsX2_rightOf_r1 : List Cond := [Cond.fieldLink RX2 18 "BoxVault" "orders" "LBoxVault$OrderBook;", Cond.instanceMethod yX0_isRented, Cond.initialized RX0, Cond.selects RX0 yX0_isRented yX0_isRented, Cond.code yX0_isRented cX0_isRented 1 (some .boolean), Cond.fieldLink RX0 11 "BoxVault$Box" "state" "I", Cond.methodLink RX2 64 yX2_isAlive, Cond.instanceMethod yX2_isAlive, Cond.selects RX2 yX2_isAlive yX2_isAlive, Cond.initialized RX2, Cond.code yX2_isAlive cX2_isAlive 2 (some .boolean), Cond.fieldLink RX2 22 "BoxVault" "dead" "[Z", Cond.methodLink RX2 201 yX2_isPerson, Cond.static yX2_isPerson, Cond.code yX2_isPerson cX2_isPerson 1 (some .boolean), Cond.instanceMethod yX1_bindingOn, Cond.initialized RX1, Cond.selects RX1 yX1_bindingOn yX1_bindingOn, Cond.code yX1_bindingOn cX1_bindingOn 4 (some .int), Cond.fieldLink RX1 9 "BoxVault$OrderBook" "count" "I", Cond.fieldLink RX1 28 "BoxVault$OrderBook" "holds" "[Z", Cond.fieldLink RX1 15 "BoxVault$OrderBook" "box" "[I", Cond.fieldLink RX1 19 "BoxVault$OrderBook" "court" "[I", Cond.methodLink RX2 204 yX2_orderAllows]
def wsX2_rightOf_r2 : List Cond := [Cond.instanceMethod yX2_orderAllows, Cond.selects RX2 yX2_orderAllows yX2_orderAllows, Cond.code yX2_orderAllows cX2_orderAllows 4 (some .boolean), Cond.instanceMethod yX1_kindOf, Cond.selects RX1 yX1_kindOf yX1_kindOf, Cond.code yX1_kindOf cX1_kindOf 2 (some .int), Cond.fieldLink RX1 22 "BoxVault$OrderBook" "kind" "[I", Cond.methodLink RX1 32 yX1_has, Cond.instanceMethod yX1_has, Cond.selects RX1 yX1_has yX1_has, Cond.code yX1_has cX1_has 2 (some .boolean), Cond.instanceMethod yX1_personOf, Cond.selects RX1 yX1_personOf yX1_personOf, Cond.code yX1_personOf cX1_personOf 2 (some .int), Cond.fieldLink RX1 25 "BoxVault$OrderBook" "person" "[I", Cond.methodLink RX2 213 yX2_isHeirOfDead, Cond.instanceMethod yX2_isHeirOfDead, Cond.selects RX2 yX2_isHeirOfDead yX2_isHeirOfDead, Cond.code yX2_isHeirOfDead cX2_isHeirOfDead 3 (some .boolean), Cond.methodLink RX2 153 yX2_isHeir, Cond.instanceMethod yX2_isHeir, Cond.selects RX2 yX2_isHeir yX2_isHeir, Cond.code yX2_isHeir cX2_isHeir 3 (some .boolean), Cond.fieldLink RX2 26 "BoxVault" "heirs" "[I"]
def wsX2_rightOf_r3 : List Cond := [Cond.methodLink RX2 207 yX2_holderAllows, Cond.instanceMethod yX2_holderAllows, Cond.selects RX2 yX2_holderAllows yX2_holderAllows, Cond.code yX2_holderAllows cX2_holderAllows 3 (some .boolean), Cond.fieldLink RX2 33 "BoxVault" "today" "I", Cond.instanceMethod yX0_noticesOn, Cond.selects RX0 yX0_noticesOn yX0_noticesOn, Cond.code yX0_noticesOn cX0_noticesOn 2 (some .int), Cond.methodLink RX0 57 Lib.Math.min.name, Cond.static Lib.Math.min.name, Cond.initialized "java/lang/Math", Cond.code Lib.Math.min.name Lib.Math.min.code 2 (some .int), Cond.methodLink RX0 44 yX0_overdueOn, Cond.instanceMethod yX0_overdueOn, Cond.selects RX0 yX0_overdueOn yX0_overdueOn, Cond.code yX0_overdueOn cX0_overdueOn 2 (some .int), Cond.fieldLink RX0 18 "BoxVault$Box" "paidUpTo" "I", Cond.methodLink RX0 51 Lib.Math.max.name, Cond.static Lib.Math.max.name, Cond.code Lib.Math.max.name Lib.Math.max.code 2 (some .int), Cond.instanceMethod yX0_hasProxyOn, Cond.selects RX0 yX0_hasProxyOn yX0_hasProxyOn, Cond.code yX0_hasProxyOn cX0_hasProxyOn 4 (some .boolean), Cond.fieldLink RX0 31 "BoxVault$Box" "proxyCount" "I"]
def wsX2_rightOf_r4 : List Cond := [Cond.fieldLink RX0 34 "BoxVault$Box" "proxyPerson" "[I", Cond.fieldLink RX0 38 "BoxVault$Box" "proxyFirst" "[I", Cond.fieldLink RX0 41 "BoxVault$Box" "proxyLast" "[I"]
def wsX2_rightOf : List Cond := .code yX2_rightOf cX2_rightOf 5 (some .int) :: ((wsX2_rightOf_r1 ++ (wsX2_rightOf_r2 ++ (wsX2_rightOf_r3 ++ wsX2_rightOf_r4))) ++ wsX20 ++ wsX00 ++ wsX10)
def wsX2_makeFree : List Cond := .code yX2_makeFree cX2_makeFree 3 none :: ([.fieldLink RX2 18 "BoxVault" "orders" "LBoxVault$OrderBook;", .instanceMethod yX0_empty, .initialized RX0, .selects RX0 yX0_empty yX0_empty, .code yX0_empty cX0_empty 1 none, .fieldLink RX0 11 "BoxVault$Box" "state" "I", .fieldLink RX0 15 "BoxVault$Box" "holder" "I", .methodLink RX0 48 yX0_endProxies, .instanceMethod yX0_endProxies, .selects RX0 yX0_endProxies yX0_endProxies, .code yX0_endProxies cX0_endProxies 1 none, .fieldLink RX0 31 "BoxVault$Box" "proxyCount" "I", .instanceMethod yX1_endAllOn, .initialized RX1, .selects RX1 yX1_endAllOn yX1_endAllOn, .code yX1_endAllOn cX1_endAllOn 3 none, .fieldLink RX1 9 "BoxVault$OrderBook" "count" "I", .fieldLink RX1 15 "BoxVault$OrderBook" "box" "[I", .fieldLink RX1 28 "BoxVault$OrderBook" "holds" "[Z"] ++ wsX20 ++ wsX00 ++ wsX10)
def wsX2_giveBack_r1 : List Cond := [Cond.classLink RX2 43 "java/lang/IllegalStateException", Cond.initialized "java/lang/IllegalStateException", Cond.methodLink RX2 50 yX2_boxAt, Cond.instanceMethod yX2_boxAt, Cond.selects RX2 yX2_boxAt yX2_boxAt, Cond.initialized RX2, Cond.code yX2_boxAt cX2_boxAt 2 (some (.object "BoxVault$Box")), Cond.fieldLink RX2 11 "BoxVault" "boxes" "[LBoxVault$Box;", Cond.methodLink RX2 38 yX2_requireRange, Cond.static yX2_requireRange, Cond.code yX2_requireRange cX2_requireRange 3 none, Cond.classLink RX2 94 "java/lang/IllegalArgumentException", Cond.initialized "java/lang/IllegalArgumentException", Cond.methodLink RX2 54 yX2_requirePerson, Cond.static yX2_requirePerson, Cond.code yX2_requirePerson cX2_requirePerson 1 none, Cond.methodLink RX2 77 yX2_requireRented, Cond.static yX2_requireRented, Cond.code yX2_requireRented cX2_requireRented 1 none, Cond.instanceMethod yX0_isRented, Cond.initialized RX0, Cond.selects RX0 yX0_isRented yX0_isRented, Cond.code yX0_isRented cX0_isRented 1 (some .boolean), Cond.fieldLink RX0 11 "BoxVault$Box" "state" "I"]
def wsX2_giveBack_r2 : List Cond := [Cond.methodLink RX2 81 yX2_rightOf, Cond.instanceMethod yX2_rightOf, Cond.selects RX2 yX2_rightOf yX2_rightOf, Cond.code yX2_rightOf cX2_rightOf 5 (some .int), Cond.fieldLink RX2 18 "BoxVault" "orders" "LBoxVault$OrderBook;", Cond.methodLink RX2 64 yX2_isAlive, Cond.instanceMethod yX2_isAlive, Cond.selects RX2 yX2_isAlive yX2_isAlive, Cond.code yX2_isAlive cX2_isAlive 2 (some .boolean), Cond.fieldLink RX2 22 "BoxVault" "dead" "[Z", Cond.methodLink RX2 201 yX2_isPerson, Cond.static yX2_isPerson, Cond.code yX2_isPerson cX2_isPerson 1 (some .boolean), Cond.instanceMethod yX1_bindingOn, Cond.initialized RX1, Cond.selects RX1 yX1_bindingOn yX1_bindingOn, Cond.code yX1_bindingOn cX1_bindingOn 4 (some .int), Cond.fieldLink RX1 9 "BoxVault$OrderBook" "count" "I", Cond.fieldLink RX1 28 "BoxVault$OrderBook" "holds" "[Z", Cond.fieldLink RX1 15 "BoxVault$OrderBook" "box" "[I", Cond.fieldLink RX1 19 "BoxVault$OrderBook" "court" "[I", Cond.methodLink RX2 204 yX2_orderAllows, Cond.instanceMethod yX2_orderAllows, Cond.selects RX2 yX2_orderAllows yX2_orderAllows]
def wsX2_giveBack_r3 : List Cond := [Cond.code yX2_orderAllows cX2_orderAllows 4 (some .boolean), Cond.instanceMethod yX1_kindOf, Cond.selects RX1 yX1_kindOf yX1_kindOf, Cond.code yX1_kindOf cX1_kindOf 2 (some .int), Cond.fieldLink RX1 22 "BoxVault$OrderBook" "kind" "[I", Cond.methodLink RX1 32 yX1_has, Cond.instanceMethod yX1_has, Cond.selects RX1 yX1_has yX1_has, Cond.code yX1_has cX1_has 2 (some .boolean), Cond.instanceMethod yX1_personOf, Cond.selects RX1 yX1_personOf yX1_personOf, Cond.code yX1_personOf cX1_personOf 2 (some .int), Cond.fieldLink RX1 25 "BoxVault$OrderBook" "person" "[I", Cond.methodLink RX2 213 yX2_isHeirOfDead, Cond.instanceMethod yX2_isHeirOfDead, Cond.selects RX2 yX2_isHeirOfDead yX2_isHeirOfDead, Cond.code yX2_isHeirOfDead cX2_isHeirOfDead 3 (some .boolean), Cond.methodLink RX2 153 yX2_isHeir, Cond.instanceMethod yX2_isHeir, Cond.selects RX2 yX2_isHeir yX2_isHeir, Cond.code yX2_isHeir cX2_isHeir 3 (some .boolean), Cond.fieldLink RX2 26 "BoxVault" "heirs" "[I", Cond.methodLink RX2 207 yX2_holderAllows, Cond.instanceMethod yX2_holderAllows]
def wsX2_giveBack_r4 : List Cond := [Cond.selects RX2 yX2_holderAllows yX2_holderAllows, Cond.code yX2_holderAllows cX2_holderAllows 3 (some .boolean), Cond.fieldLink RX2 33 "BoxVault" "today" "I", Cond.instanceMethod yX0_noticesOn, Cond.selects RX0 yX0_noticesOn yX0_noticesOn, Cond.code yX0_noticesOn cX0_noticesOn 2 (some .int), Cond.methodLink RX0 57 Lib.Math.min.name, Cond.static Lib.Math.min.name, Cond.initialized "java/lang/Math", Cond.code Lib.Math.min.name Lib.Math.min.code 2 (some .int), Cond.methodLink RX0 44 yX0_overdueOn, Cond.instanceMethod yX0_overdueOn, Cond.selects RX0 yX0_overdueOn yX0_overdueOn, Cond.code yX0_overdueOn cX0_overdueOn 2 (some .int), Cond.fieldLink RX0 18 "BoxVault$Box" "paidUpTo" "I", Cond.methodLink RX0 51 Lib.Math.max.name, Cond.static Lib.Math.max.name, Cond.code Lib.Math.max.name Lib.Math.max.code 2 (some .int), Cond.instanceMethod yX0_hasProxyOn, Cond.selects RX0 yX0_hasProxyOn yX0_hasProxyOn, Cond.code yX0_hasProxyOn cX0_hasProxyOn 4 (some .boolean), Cond.fieldLink RX0 31 "BoxVault$Box" "proxyCount" "I", Cond.fieldLink RX0 34 "BoxVault$Box" "proxyPerson" "[I", Cond.fieldLink RX0 38 "BoxVault$Box" "proxyFirst" "[I"]
def wsX2_giveBack_r5 : List Cond := [Cond.fieldLink RX0 41 "BoxVault$Box" "proxyLast" "[I", Cond.methodLink RX2 90 yX2_makeFree, Cond.instanceMethod yX2_makeFree, Cond.selects RX2 yX2_makeFree yX2_makeFree, Cond.code yX2_makeFree cX2_makeFree 3 none, Cond.instanceMethod yX0_empty, Cond.selects RX0 yX0_empty yX0_empty, Cond.code yX0_empty cX0_empty 1 none, Cond.fieldLink RX0 15 "BoxVault$Box" "holder" "I", Cond.methodLink RX0 48 yX0_endProxies, Cond.instanceMethod yX0_endProxies, Cond.selects RX0 yX0_endProxies yX0_endProxies, Cond.code yX0_endProxies cX0_endProxies 1 none, Cond.instanceMethod yX1_endAllOn, Cond.selects RX1 yX1_endAllOn yX1_endAllOn, Cond.code yX1_endAllOn cX1_endAllOn 3 none]
def wsX2_giveBack : List Cond := .code yX2_giveBack cX2_giveBack 5 (some .int) :: ((wsX2_giveBack_r1 ++ (wsX2_giveBack_r2 ++ (wsX2_giveBack_r3 ++ (wsX2_giveBack_r4 ++ wsX2_giveBack_r5)))) ++ wsX00 ++ wsX20 ++ wsX10 ++ (vx_atS RX2 47 "java/lang/IllegalStateException" ["java/lang/RuntimeException", "java/lang/Exception"]).filter goodWord ++ (vx_atS RX2 98 "java/lang/IllegalArgumentException" ["java/lang/RuntimeException", "java/lang/Exception"]).filter goodWord)
def wsX2_canWitness : List Cond := .code yX2_canWitness cX2_canWitness 3 (some .boolean) :: ([.methodLink RX2 64 yX2_isAlive, .instanceMethod yX2_isAlive, .selects RX2 yX2_isAlive yX2_isAlive, .initialized RX2, .code yX2_isAlive cX2_isAlive 2 (some .boolean), .fieldLink RX2 22 "BoxVault" "dead" "[Z", .methodLink RX2 201 yX2_isPerson, .static yX2_isPerson, .code yX2_isPerson cX2_isPerson 1 (some .boolean)] ++ wsX00 ++ wsX20)
def wsX2_drill_r1 : List Cond := [Cond.classLink RX2 94 "java/lang/IllegalArgumentException", Cond.initialized "java/lang/IllegalArgumentException", Cond.classLink RX2 43 "java/lang/IllegalStateException", Cond.initialized "java/lang/IllegalStateException", Cond.fieldLink RX2 33 "BoxVault" "today" "I", Cond.fieldLink RX2 18 "BoxVault" "orders" "LBoxVault$OrderBook;", Cond.methodLink RX2 50 yX2_boxAt, Cond.instanceMethod yX2_boxAt, Cond.selects RX2 yX2_boxAt yX2_boxAt, Cond.initialized RX2, Cond.code yX2_boxAt cX2_boxAt 2 (some (.object "BoxVault$Box")), Cond.fieldLink RX2 11 "BoxVault" "boxes" "[LBoxVault$Box;", Cond.methodLink RX2 38 yX2_requireRange, Cond.static yX2_requireRange, Cond.code yX2_requireRange cX2_requireRange 3 none, Cond.methodLink RX2 54 yX2_requirePerson, Cond.static yX2_requirePerson, Cond.code yX2_requirePerson cX2_requirePerson 1 none, Cond.methodLink RX2 77 yX2_requireRented, Cond.static yX2_requireRented, Cond.code yX2_requireRented cX2_requireRented 1 none, Cond.instanceMethod yX0_isRented, Cond.initialized RX0, Cond.selects RX0 yX0_isRented yX0_isRented]
def wsX2_drill_r2 : List Cond := [Cond.code yX0_isRented cX0_isRented 1 (some .boolean), Cond.fieldLink RX0 11 "BoxVault$Box" "state" "I", Cond.instanceMethod yX0_noticesOn, Cond.selects RX0 yX0_noticesOn yX0_noticesOn, Cond.code yX0_noticesOn cX0_noticesOn 2 (some .int), Cond.methodLink RX0 57 Lib.Math.min.name, Cond.static Lib.Math.min.name, Cond.initialized "java/lang/Math", Cond.code Lib.Math.min.name Lib.Math.min.code 2 (some .int), Cond.methodLink RX0 44 yX0_overdueOn, Cond.instanceMethod yX0_overdueOn, Cond.selects RX0 yX0_overdueOn yX0_overdueOn, Cond.code yX0_overdueOn cX0_overdueOn 2 (some .int), Cond.fieldLink RX0 18 "BoxVault$Box" "paidUpTo" "I", Cond.methodLink RX0 51 Lib.Math.max.name, Cond.static Lib.Math.max.name, Cond.code Lib.Math.max.name Lib.Math.max.code 2 (some .int), Cond.methodLink RX2 105 yX2_canWitness, Cond.instanceMethod yX2_canWitness, Cond.selects RX2 yX2_canWitness yX2_canWitness, Cond.code yX2_canWitness cX2_canWitness 3 (some .boolean), Cond.methodLink RX2 64 yX2_isAlive, Cond.instanceMethod yX2_isAlive, Cond.selects RX2 yX2_isAlive yX2_isAlive]
def wsX2_drill_r3 : List Cond := [Cond.code yX2_isAlive cX2_isAlive 2 (some .boolean), Cond.fieldLink RX2 22 "BoxVault" "dead" "[Z", Cond.methodLink RX2 201 yX2_isPerson, Cond.static yX2_isPerson, Cond.code yX2_isPerson cX2_isPerson 1 (some .boolean), Cond.instanceMethod yX1_bindingOn, Cond.initialized RX1, Cond.selects RX1 yX1_bindingOn yX1_bindingOn, Cond.code yX1_bindingOn cX1_bindingOn 4 (some .int), Cond.fieldLink RX1 9 "BoxVault$OrderBook" "count" "I", Cond.fieldLink RX1 28 "BoxVault$OrderBook" "holds" "[Z", Cond.fieldLink RX1 15 "BoxVault$OrderBook" "box" "[I", Cond.fieldLink RX1 19 "BoxVault$OrderBook" "court" "[I", Cond.instanceMethod yX1_kindOf, Cond.selects RX1 yX1_kindOf yX1_kindOf, Cond.code yX1_kindOf cX1_kindOf 2 (some .int), Cond.fieldLink RX1 22 "BoxVault$OrderBook" "kind" "[I", Cond.methodLink RX1 32 yX1_has, Cond.instanceMethod yX1_has, Cond.selects RX1 yX1_has yX1_has, Cond.code yX1_has cX1_has 2 (some .boolean), Cond.instanceMethod yX0_breakOpen, Cond.selects RX0 yX0_breakOpen yX0_breakOpen, Cond.code yX0_breakOpen cX0_breakOpen 2 none]
def wsX2_drill_r4 : List Cond := [Cond.fieldLink RX0 21 "BoxVault$Box" "unpaidDays" "I"]
def wsX2_drill : List Cond := .code yX2_drill cX2_drill 5 (some .int) :: ((wsX2_drill_r1 ++ (wsX2_drill_r2 ++ (wsX2_drill_r3 ++ wsX2_drill_r4))) ++ wsX20 ++ wsX00 ++ wsX10 ++ (vx_atS RX2 98 "java/lang/IllegalArgumentException" ["java/lang/RuntimeException", "java/lang/Exception"]).filter goodWord ++ (vx_atS RX2 47 "java/lang/IllegalStateException" ["java/lang/RuntimeException", "java/lang/Exception"]).filter goodWord)
def wsX2_mayFetch_r1 : List Cond := [Cond.fieldLink RX2 18 "BoxVault" "orders" "LBoxVault$OrderBook;", Cond.methodLink RX2 64 yX2_isAlive, Cond.instanceMethod yX2_isAlive, Cond.selects RX2 yX2_isAlive yX2_isAlive, Cond.initialized RX2, Cond.code yX2_isAlive cX2_isAlive 2 (some .boolean), Cond.fieldLink RX2 22 "BoxVault" "dead" "[Z", Cond.methodLink RX2 201 yX2_isPerson, Cond.static yX2_isPerson, Cond.code yX2_isPerson cX2_isPerson 1 (some .boolean), Cond.instanceMethod yX1_bindingOn, Cond.initialized RX1, Cond.selects RX1 yX1_bindingOn yX1_bindingOn, Cond.code yX1_bindingOn cX1_bindingOn 4 (some .int), Cond.fieldLink RX1 9 "BoxVault$OrderBook" "count" "I", Cond.fieldLink RX1 28 "BoxVault$OrderBook" "holds" "[Z", Cond.fieldLink RX1 15 "BoxVault$OrderBook" "box" "[I", Cond.fieldLink RX1 19 "BoxVault$OrderBook" "court" "[I", Cond.methodLink RX2 204 yX2_orderAllows, Cond.instanceMethod yX2_orderAllows, Cond.selects RX2 yX2_orderAllows yX2_orderAllows, Cond.code yX2_orderAllows cX2_orderAllows 4 (some .boolean), Cond.instanceMethod yX1_kindOf, Cond.selects RX1 yX1_kindOf yX1_kindOf]
def wsX2_mayFetch_r2 : List Cond := [Cond.code yX1_kindOf cX1_kindOf 2 (some .int), Cond.fieldLink RX1 22 "BoxVault$OrderBook" "kind" "[I", Cond.methodLink RX1 32 yX1_has, Cond.instanceMethod yX1_has, Cond.selects RX1 yX1_has yX1_has, Cond.code yX1_has cX1_has 2 (some .boolean), Cond.instanceMethod yX1_personOf, Cond.selects RX1 yX1_personOf yX1_personOf, Cond.code yX1_personOf cX1_personOf 2 (some .int), Cond.fieldLink RX1 25 "BoxVault$OrderBook" "person" "[I", Cond.methodLink RX2 213 yX2_isHeirOfDead, Cond.instanceMethod yX2_isHeirOfDead, Cond.selects RX2 yX2_isHeirOfDead yX2_isHeirOfDead, Cond.code yX2_isHeirOfDead cX2_isHeirOfDead 3 (some .boolean), Cond.methodLink RX2 153 yX2_isHeir, Cond.instanceMethod yX2_isHeir, Cond.selects RX2 yX2_isHeir yX2_isHeir, Cond.code yX2_isHeir cX2_isHeir 3 (some .boolean), Cond.fieldLink RX2 26 "BoxVault" "heirs" "[I"]
def wsX2_mayFetch : List Cond := .code yX2_mayFetch cX2_mayFetch 5 (some .boolean) :: ((wsX2_mayFetch_r1 ++ wsX2_mayFetch_r2) ++ wsX20 ++ wsX00 ++ wsX10)
def wsX2_fetch_r1 : List Cond := [Cond.classLink RX2 43 "java/lang/IllegalStateException", Cond.initialized "java/lang/IllegalStateException", Cond.methodLink RX2 50 yX2_boxAt, Cond.instanceMethod yX2_boxAt, Cond.selects RX2 yX2_boxAt yX2_boxAt, Cond.initialized RX2, Cond.code yX2_boxAt cX2_boxAt 2 (some (.object "BoxVault$Box")), Cond.fieldLink RX2 11 "BoxVault" "boxes" "[LBoxVault$Box;", Cond.methodLink RX2 38 yX2_requireRange, Cond.static yX2_requireRange, Cond.code yX2_requireRange cX2_requireRange 3 none, Cond.classLink RX2 94 "java/lang/IllegalArgumentException", Cond.initialized "java/lang/IllegalArgumentException", Cond.methodLink RX2 54 yX2_requirePerson, Cond.static yX2_requirePerson, Cond.code yX2_requirePerson cX2_requirePerson 1 none, Cond.methodLink RX2 130 yX2_mayFetch, Cond.instanceMethod yX2_mayFetch, Cond.selects RX2 yX2_mayFetch yX2_mayFetch, Cond.code yX2_mayFetch cX2_mayFetch 5 (some .boolean), Cond.fieldLink RX2 18 "BoxVault" "orders" "LBoxVault$OrderBook;", Cond.methodLink RX2 64 yX2_isAlive, Cond.instanceMethod yX2_isAlive, Cond.selects RX2 yX2_isAlive yX2_isAlive]
def wsX2_fetch_r2 : List Cond := [Cond.code yX2_isAlive cX2_isAlive 2 (some .boolean), Cond.fieldLink RX2 22 "BoxVault" "dead" "[Z", Cond.methodLink RX2 201 yX2_isPerson, Cond.static yX2_isPerson, Cond.code yX2_isPerson cX2_isPerson 1 (some .boolean), Cond.instanceMethod yX1_bindingOn, Cond.initialized RX1, Cond.selects RX1 yX1_bindingOn yX1_bindingOn, Cond.code yX1_bindingOn cX1_bindingOn 4 (some .int), Cond.fieldLink RX1 9 "BoxVault$OrderBook" "count" "I", Cond.fieldLink RX1 28 "BoxVault$OrderBook" "holds" "[Z", Cond.fieldLink RX1 15 "BoxVault$OrderBook" "box" "[I", Cond.fieldLink RX1 19 "BoxVault$OrderBook" "court" "[I", Cond.methodLink RX2 204 yX2_orderAllows, Cond.instanceMethod yX2_orderAllows, Cond.selects RX2 yX2_orderAllows yX2_orderAllows, Cond.code yX2_orderAllows cX2_orderAllows 4 (some .boolean), Cond.instanceMethod yX1_kindOf, Cond.selects RX1 yX1_kindOf yX1_kindOf, Cond.code yX1_kindOf cX1_kindOf 2 (some .int), Cond.fieldLink RX1 22 "BoxVault$OrderBook" "kind" "[I", Cond.methodLink RX1 32 yX1_has, Cond.instanceMethod yX1_has, Cond.selects RX1 yX1_has yX1_has]
def wsX2_fetch_r3 : List Cond := [Cond.code yX1_has cX1_has 2 (some .boolean), Cond.instanceMethod yX1_personOf, Cond.selects RX1 yX1_personOf yX1_personOf, Cond.code yX1_personOf cX1_personOf 2 (some .int), Cond.fieldLink RX1 25 "BoxVault$OrderBook" "person" "[I", Cond.methodLink RX2 213 yX2_isHeirOfDead, Cond.instanceMethod yX2_isHeirOfDead, Cond.selects RX2 yX2_isHeirOfDead yX2_isHeirOfDead, Cond.code yX2_isHeirOfDead cX2_isHeirOfDead 3 (some .boolean), Cond.methodLink RX2 153 yX2_isHeir, Cond.instanceMethod yX2_isHeir, Cond.selects RX2 yX2_isHeir yX2_isHeir, Cond.code yX2_isHeir cX2_isHeir 3 (some .boolean), Cond.fieldLink RX2 26 "BoxVault" "heirs" "[I", Cond.methodLink RX2 90 yX2_makeFree, Cond.instanceMethod yX2_makeFree, Cond.selects RX2 yX2_makeFree yX2_makeFree, Cond.code yX2_makeFree cX2_makeFree 3 none, Cond.instanceMethod yX0_empty, Cond.initialized RX0, Cond.selects RX0 yX0_empty yX0_empty, Cond.code yX0_empty cX0_empty 1 none, Cond.fieldLink RX0 11 "BoxVault$Box" "state" "I", Cond.fieldLink RX0 15 "BoxVault$Box" "holder" "I"]
def wsX2_fetch_r4 : List Cond := [Cond.methodLink RX0 48 yX0_endProxies, Cond.instanceMethod yX0_endProxies, Cond.selects RX0 yX0_endProxies yX0_endProxies, Cond.code yX0_endProxies cX0_endProxies 1 none, Cond.fieldLink RX0 31 "BoxVault$Box" "proxyCount" "I", Cond.instanceMethod yX1_endAllOn, Cond.selects RX1 yX1_endAllOn yX1_endAllOn, Cond.code yX1_endAllOn cX1_endAllOn 3 none]
def wsX2_fetch : List Cond := .code yX2_fetch cX2_fetch 5 (some .int) :: ((wsX2_fetch_r1 ++ (wsX2_fetch_r2 ++ (wsX2_fetch_r3 ++ wsX2_fetch_r4))) ++ wsX00 ++ wsX20 ++ wsX10 ++ (vx_atS RX2 47 "java/lang/IllegalStateException" ["java/lang/RuntimeException", "java/lang/Exception"]).filter goodWord ++ (vx_atS RX2 98 "java/lang/IllegalArgumentException" ["java/lang/RuntimeException", "java/lang/Exception"]).filter goodWord)
def wsX2_proxy_r1 : List Cond := [Cond.classLink RX2 43 "java/lang/IllegalStateException", Cond.initialized "java/lang/IllegalStateException", Cond.constant RX2 42 (99999), Cond.methodLink RX2 50 yX2_boxAt, Cond.instanceMethod yX2_boxAt, Cond.selects RX2 yX2_boxAt yX2_boxAt, Cond.initialized RX2, Cond.code yX2_boxAt cX2_boxAt 2 (some (.object "BoxVault$Box")), Cond.fieldLink RX2 11 "BoxVault" "boxes" "[LBoxVault$Box;", Cond.methodLink RX2 38 yX2_requireRange, Cond.static yX2_requireRange, Cond.code yX2_requireRange cX2_requireRange 3 none, Cond.classLink RX2 94 "java/lang/IllegalArgumentException", Cond.initialized "java/lang/IllegalArgumentException", Cond.methodLink RX2 54 yX2_requirePerson, Cond.static yX2_requirePerson, Cond.code yX2_requirePerson cX2_requirePerson 1 none, Cond.methodLink RX2 77 yX2_requireRented, Cond.static yX2_requireRented, Cond.code yX2_requireRented cX2_requireRented 1 none, Cond.instanceMethod yX0_isRented, Cond.initialized RX0, Cond.selects RX0 yX0_isRented yX0_isRented, Cond.code yX0_isRented cX0_isRented 1 (some .boolean)]
def wsX2_proxy_r2 : List Cond := [Cond.fieldLink RX0 11 "BoxVault$Box" "state" "I", Cond.methodLink RX2 64 yX2_isAlive, Cond.instanceMethod yX2_isAlive, Cond.selects RX2 yX2_isAlive yX2_isAlive, Cond.code yX2_isAlive cX2_isAlive 2 (some .boolean), Cond.fieldLink RX2 22 "BoxVault" "dead" "[Z", Cond.methodLink RX2 201 yX2_isPerson, Cond.static yX2_isPerson, Cond.code yX2_isPerson cX2_isPerson 1 (some .boolean), Cond.instanceMethod yX0_addProxy, Cond.selects RX0 yX0_addProxy yX0_addProxy, Cond.code yX0_addProxy cX0_addProxy 4 none, Cond.fieldLink RX0 31 "BoxVault$Box" "proxyCount" "I", Cond.fieldLink RX0 34 "BoxVault$Box" "proxyPerson" "[I", Cond.fieldLink RX0 38 "BoxVault$Box" "proxyFirst" "[I", Cond.fieldLink RX0 41 "BoxVault$Box" "proxyLast" "[I"]
def wsX2_proxy : List Cond := .code yX2_proxy cX2_proxy 6 (some .int) :: ((wsX2_proxy_r1 ++ wsX2_proxy_r2) ++ wsX00 ++ wsX20 ++ (vx_atS RX2 47 "java/lang/IllegalStateException" ["java/lang/RuntimeException", "java/lang/Exception"]).filter goodWord ++ (vx_atS RX2 98 "java/lang/IllegalArgumentException" ["java/lang/RuntimeException", "java/lang/Exception"]).filter goodWord)
def wsX2_heir : List Cond := .code yX2_heir cX2_heir 6 (some .boolean) :: ([.classLink RX2 94 "java/lang/IllegalArgumentException", .initialized "java/lang/IllegalArgumentException", .fieldLink RX2 26 "BoxVault" "heirs" "[I", .methodLink RX2 54 yX2_requirePerson, .static yX2_requirePerson, .initialized RX2, .code yX2_requirePerson cX2_requirePerson 1 none, .methodLink RX2 38 yX2_requireRange, .static yX2_requireRange, .code yX2_requireRange cX2_requireRange 3 none, .methodLink RX2 153 yX2_isHeir, .instanceMethod yX2_isHeir, .selects RX2 yX2_isHeir yX2_isHeir, .code yX2_isHeir cX2_isHeir 3 (some .boolean), .methodLink RX2 201 yX2_isPerson, .static yX2_isPerson, .code yX2_isPerson cX2_isPerson 1 (some .boolean)] ++ wsX20 ++ (vx_atS RX2 98 "java/lang/IllegalArgumentException" ["java/lang/RuntimeException", "java/lang/Exception"]).filter goodWord)
def wsX2_die : List Cond := .code yX2_die cX2_die 4 (some .int) :: ([.classLink RX2 43 "java/lang/IllegalStateException", .initialized "java/lang/IllegalStateException", .fieldLink RX2 22 "BoxVault" "dead" "[Z", .fieldLink RX2 11 "BoxVault" "boxes" "[LBoxVault$Box;", .methodLink RX2 54 yX2_requirePerson, .static yX2_requirePerson, .initialized RX2, .code yX2_requirePerson cX2_requirePerson 1 none, .methodLink RX2 38 yX2_requireRange, .static yX2_requireRange, .code yX2_requireRange cX2_requireRange 3 none, .classLink RX2 94 "java/lang/IllegalArgumentException", .initialized "java/lang/IllegalArgumentException", .instanceMethod yX0_endProxies, .initialized RX0, .selects RX0 yX0_endProxies yX0_endProxies, .code yX0_endProxies cX0_endProxies 1 none, .fieldLink RX0 31 "BoxVault$Box" "proxyCount" "I", .instanceMethod yX0_isRented, .selects RX0 yX0_isRented yX0_isRented, .code yX0_isRented cX0_isRented 1 (some .boolean), .fieldLink RX0 11 "BoxVault$Box" "state" "I"] ++ wsX20 ++ wsX00 ++ (vx_atS RX2 47 "java/lang/IllegalStateException" ["java/lang/RuntimeException", "java/lang/Exception"]).filter goodWord ++ (vx_atS RX2 98 "java/lang/IllegalArgumentException" ["java/lang/RuntimeException", "java/lang/Exception"]).filter goodWord)
def wsX2_order_r1 : List Cond := [Cond.classLink RX2 43 "java/lang/IllegalStateException", Cond.initialized "java/lang/IllegalStateException", Cond.fieldLink RX2 18 "BoxVault" "orders" "LBoxVault$OrderBook;", Cond.methodLink RX2 50 yX2_boxAt, Cond.instanceMethod yX2_boxAt, Cond.selects RX2 yX2_boxAt yX2_boxAt, Cond.initialized RX2, Cond.code yX2_boxAt cX2_boxAt 2 (some (.object "BoxVault$Box")), Cond.fieldLink RX2 11 "BoxVault" "boxes" "[LBoxVault$Box;", Cond.methodLink RX2 38 yX2_requireRange, Cond.static yX2_requireRange, Cond.code yX2_requireRange cX2_requireRange 3 none, Cond.classLink RX2 94 "java/lang/IllegalArgumentException", Cond.initialized "java/lang/IllegalArgumentException", Cond.methodLink RX2 54 yX2_requirePerson, Cond.static yX2_requirePerson, Cond.code yX2_requirePerson cX2_requirePerson 1 none, Cond.instanceMethod yX0_isFree, Cond.initialized RX0, Cond.selects RX0 yX0_isFree yX0_isFree, Cond.code yX0_isFree cX0_isFree 1 (some .boolean), Cond.fieldLink RX0 11 "BoxVault$Box" "state" "I", Cond.instanceMethod yX1_isFull, Cond.initialized RX1]
def wsX2_order_r2 : List Cond := [Cond.selects RX1 yX1_isFull yX1_isFull, Cond.code yX1_isFull cX1_isFull 1 (some .boolean), Cond.fieldLink RX1 9 "BoxVault$OrderBook" "count" "I", Cond.instanceMethod yX1_add, Cond.selects RX1 yX1_add yX1_add, Cond.code yX1_add cX1_add 6 (some .int), Cond.fieldLink RX1 15 "BoxVault$OrderBook" "box" "[I", Cond.fieldLink RX1 19 "BoxVault$OrderBook" "court" "[I", Cond.fieldLink RX1 22 "BoxVault$OrderBook" "kind" "[I", Cond.fieldLink RX1 25 "BoxVault$OrderBook" "person" "[I", Cond.fieldLink RX1 28 "BoxVault$OrderBook" "holds" "[Z"]
def wsX2_order : List Cond := .code yX2_order cX2_order 6 (some .int) :: ((wsX2_order_r1 ++ wsX2_order_r2) ++ wsX20 ++ wsX00 ++ wsX10 ++ (vx_atS RX2 47 "java/lang/IllegalStateException" ["java/lang/RuntimeException", "java/lang/Exception"]).filter goodWord ++ (vx_atS RX2 98 "java/lang/IllegalArgumentException" ["java/lang/RuntimeException", "java/lang/Exception"]).filter goodWord)
def wsX2_lift_r1 : List Cond := [Cond.classLink RX2 177 "java/lang/IndexOutOfBoundsException", Cond.initialized "java/lang/IndexOutOfBoundsException", Cond.classLink RX2 43 "java/lang/IllegalStateException", Cond.initialized "java/lang/IllegalStateException", Cond.fieldLink RX2 18 "BoxVault" "orders" "LBoxVault$OrderBook;", Cond.instanceMethod yX1_has, Cond.initialized RX1, Cond.selects RX1 yX1_has yX1_has, Cond.code yX1_has cX1_has 2 (some .boolean), Cond.fieldLink RX1 9 "BoxVault$OrderBook" "count" "I", Cond.instanceMethod yX1_isInForce, Cond.selects RX1 yX1_isInForce yX1_isInForce, Cond.code yX1_isInForce cX1_isInForce 2 (some .boolean), Cond.fieldLink RX1 28 "BoxVault$OrderBook" "holds" "[Z", Cond.methodLink RX1 32 yX1_has, Cond.instanceMethod yX1_isBinding, Cond.selects RX1 yX1_isBinding yX1_isBinding, Cond.code yX1_isBinding cX1_isBinding 2 (some .boolean), Cond.fieldLink RX1 15 "BoxVault$OrderBook" "box" "[I", Cond.methodLink RX1 36 yX1_bindingOn, Cond.instanceMethod yX1_bindingOn, Cond.selects RX1 yX1_bindingOn yX1_bindingOn, Cond.code yX1_bindingOn cX1_bindingOn 4 (some .int), Cond.fieldLink RX1 19 "BoxVault$OrderBook" "court" "[I"]
def wsX2_lift_r2 : List Cond := [Cond.instanceMethod yX1_end, Cond.selects RX1 yX1_end yX1_end, Cond.code yX1_end cX1_end 2 none]
def wsX2_lift : List Cond := .code yX2_lift cX2_lift 3 (some .boolean) :: ((wsX2_lift_r1 ++ wsX2_lift_r2) ++ wsX20 ++ wsX10 ++ (vx_atS RX2 181 "java/lang/IndexOutOfBoundsException" ["java/lang/RuntimeException", "java/lang/Exception"]).filter goodWord ++ (vx_atS RX2 47 "java/lang/IllegalStateException" ["java/lang/RuntimeException", "java/lang/Exception"]).filter goodWord)
def wsX2_enter_r1 : List Cond := [Cond.fieldLink RX2 30 "BoxVault" "refused" "[I", Cond.methodLink RX2 50 yX2_boxAt, Cond.instanceMethod yX2_boxAt, Cond.selects RX2 yX2_boxAt yX2_boxAt, Cond.initialized RX2, Cond.code yX2_boxAt cX2_boxAt 2 (some (.object "BoxVault$Box")), Cond.fieldLink RX2 11 "BoxVault" "boxes" "[LBoxVault$Box;", Cond.methodLink RX2 38 yX2_requireRange, Cond.static yX2_requireRange, Cond.code yX2_requireRange cX2_requireRange 3 none, Cond.classLink RX2 94 "java/lang/IllegalArgumentException", Cond.initialized "java/lang/IllegalArgumentException", Cond.methodLink RX2 54 yX2_requirePerson, Cond.static yX2_requirePerson, Cond.code yX2_requirePerson cX2_requirePerson 1 none, Cond.methodLink RX2 77 yX2_requireRented, Cond.static yX2_requireRented, Cond.code yX2_requireRented cX2_requireRented 1 none, Cond.classLink RX2 43 "java/lang/IllegalStateException", Cond.initialized "java/lang/IllegalStateException", Cond.instanceMethod yX0_isRented, Cond.initialized RX0, Cond.selects RX0 yX0_isRented yX0_isRented, Cond.code yX0_isRented cX0_isRented 1 (some .boolean)]
def wsX2_enter_r2 : List Cond := [Cond.fieldLink RX0 11 "BoxVault$Box" "state" "I", Cond.methodLink RX2 81 yX2_rightOf, Cond.instanceMethod yX2_rightOf, Cond.selects RX2 yX2_rightOf yX2_rightOf, Cond.code yX2_rightOf cX2_rightOf 5 (some .int), Cond.fieldLink RX2 18 "BoxVault" "orders" "LBoxVault$OrderBook;", Cond.methodLink RX2 64 yX2_isAlive, Cond.instanceMethod yX2_isAlive, Cond.selects RX2 yX2_isAlive yX2_isAlive, Cond.code yX2_isAlive cX2_isAlive 2 (some .boolean), Cond.fieldLink RX2 22 "BoxVault" "dead" "[Z", Cond.methodLink RX2 201 yX2_isPerson, Cond.static yX2_isPerson, Cond.code yX2_isPerson cX2_isPerson 1 (some .boolean), Cond.instanceMethod yX1_bindingOn, Cond.initialized RX1, Cond.selects RX1 yX1_bindingOn yX1_bindingOn, Cond.code yX1_bindingOn cX1_bindingOn 4 (some .int), Cond.fieldLink RX1 9 "BoxVault$OrderBook" "count" "I", Cond.fieldLink RX1 28 "BoxVault$OrderBook" "holds" "[Z", Cond.fieldLink RX1 15 "BoxVault$OrderBook" "box" "[I", Cond.fieldLink RX1 19 "BoxVault$OrderBook" "court" "[I", Cond.methodLink RX2 204 yX2_orderAllows, Cond.instanceMethod yX2_orderAllows]
def wsX2_enter_r3 : List Cond := [Cond.selects RX2 yX2_orderAllows yX2_orderAllows, Cond.code yX2_orderAllows cX2_orderAllows 4 (some .boolean), Cond.instanceMethod yX1_kindOf, Cond.selects RX1 yX1_kindOf yX1_kindOf, Cond.code yX1_kindOf cX1_kindOf 2 (some .int), Cond.fieldLink RX1 22 "BoxVault$OrderBook" "kind" "[I", Cond.methodLink RX1 32 yX1_has, Cond.instanceMethod yX1_has, Cond.selects RX1 yX1_has yX1_has, Cond.code yX1_has cX1_has 2 (some .boolean), Cond.instanceMethod yX1_personOf, Cond.selects RX1 yX1_personOf yX1_personOf, Cond.code yX1_personOf cX1_personOf 2 (some .int), Cond.fieldLink RX1 25 "BoxVault$OrderBook" "person" "[I", Cond.methodLink RX2 213 yX2_isHeirOfDead, Cond.instanceMethod yX2_isHeirOfDead, Cond.selects RX2 yX2_isHeirOfDead yX2_isHeirOfDead, Cond.code yX2_isHeirOfDead cX2_isHeirOfDead 3 (some .boolean), Cond.methodLink RX2 153 yX2_isHeir, Cond.instanceMethod yX2_isHeir, Cond.selects RX2 yX2_isHeir yX2_isHeir, Cond.code yX2_isHeir cX2_isHeir 3 (some .boolean), Cond.fieldLink RX2 26 "BoxVault" "heirs" "[I", Cond.methodLink RX2 207 yX2_holderAllows]
def wsX2_enter_r4 : List Cond := [Cond.instanceMethod yX2_holderAllows, Cond.selects RX2 yX2_holderAllows yX2_holderAllows, Cond.code yX2_holderAllows cX2_holderAllows 3 (some .boolean), Cond.fieldLink RX2 33 "BoxVault" "today" "I", Cond.instanceMethod yX0_noticesOn, Cond.selects RX0 yX0_noticesOn yX0_noticesOn, Cond.code yX0_noticesOn cX0_noticesOn 2 (some .int), Cond.methodLink RX0 57 Lib.Math.min.name, Cond.static Lib.Math.min.name, Cond.initialized "java/lang/Math", Cond.code Lib.Math.min.name Lib.Math.min.code 2 (some .int), Cond.methodLink RX0 44 yX0_overdueOn, Cond.instanceMethod yX0_overdueOn, Cond.selects RX0 yX0_overdueOn yX0_overdueOn, Cond.code yX0_overdueOn cX0_overdueOn 2 (some .int), Cond.fieldLink RX0 18 "BoxVault$Box" "paidUpTo" "I", Cond.methodLink RX0 51 Lib.Math.max.name, Cond.static Lib.Math.max.name, Cond.code Lib.Math.max.name Lib.Math.max.code 2 (some .int), Cond.instanceMethod yX0_hasProxyOn, Cond.selects RX0 yX0_hasProxyOn yX0_hasProxyOn, Cond.code yX0_hasProxyOn cX0_hasProxyOn 4 (some .boolean), Cond.fieldLink RX0 31 "BoxVault$Box" "proxyCount" "I", Cond.fieldLink RX0 34 "BoxVault$Box" "proxyPerson" "[I"]
def wsX2_enter_r5 : List Cond := [Cond.fieldLink RX0 38 "BoxVault$Box" "proxyFirst" "[I", Cond.fieldLink RX0 41 "BoxVault$Box" "proxyLast" "[I"]
def wsX2_enter : List Cond := .code yX2_enter cX2_enter 6 (some .int) :: ((wsX2_enter_r1 ++ (wsX2_enter_r2 ++ (wsX2_enter_r3 ++ (wsX2_enter_r4 ++ wsX2_enter_r5)))) ++ wsX20 ++ wsX00 ++ wsX10 ++ (vx_atS RX2 98 "java/lang/IllegalArgumentException" ["java/lang/RuntimeException", "java/lang/Exception"]).filter goodWord ++ (vx_atS RX2 47 "java/lang/IllegalStateException" ["java/lang/RuntimeException", "java/lang/Exception"]).filter goodWord)
def wsX2_may_r1 : List Cond := [Cond.methodLink RX2 50 yX2_boxAt, Cond.instanceMethod yX2_boxAt, Cond.selects RX2 yX2_boxAt yX2_boxAt, Cond.initialized RX2, Cond.code yX2_boxAt cX2_boxAt 2 (some (.object "BoxVault$Box")), Cond.fieldLink RX2 11 "BoxVault" "boxes" "[LBoxVault$Box;", Cond.methodLink RX2 38 yX2_requireRange, Cond.static yX2_requireRange, Cond.code yX2_requireRange cX2_requireRange 3 none, Cond.classLink RX2 94 "java/lang/IllegalArgumentException", Cond.initialized "java/lang/IllegalArgumentException", Cond.methodLink RX2 54 yX2_requirePerson, Cond.static yX2_requirePerson, Cond.code yX2_requirePerson cX2_requirePerson 1 none, Cond.methodLink RX2 81 yX2_rightOf, Cond.instanceMethod yX2_rightOf, Cond.selects RX2 yX2_rightOf yX2_rightOf, Cond.code yX2_rightOf cX2_rightOf 5 (some .int), Cond.fieldLink RX2 18 "BoxVault" "orders" "LBoxVault$OrderBook;", Cond.instanceMethod yX0_isRented, Cond.initialized RX0, Cond.selects RX0 yX0_isRented yX0_isRented, Cond.code yX0_isRented cX0_isRented 1 (some .boolean), Cond.fieldLink RX0 11 "BoxVault$Box" "state" "I"]
def wsX2_may_r2 : List Cond := [Cond.methodLink RX2 64 yX2_isAlive, Cond.instanceMethod yX2_isAlive, Cond.selects RX2 yX2_isAlive yX2_isAlive, Cond.code yX2_isAlive cX2_isAlive 2 (some .boolean), Cond.fieldLink RX2 22 "BoxVault" "dead" "[Z", Cond.methodLink RX2 201 yX2_isPerson, Cond.static yX2_isPerson, Cond.code yX2_isPerson cX2_isPerson 1 (some .boolean), Cond.instanceMethod yX1_bindingOn, Cond.initialized RX1, Cond.selects RX1 yX1_bindingOn yX1_bindingOn, Cond.code yX1_bindingOn cX1_bindingOn 4 (some .int), Cond.fieldLink RX1 9 "BoxVault$OrderBook" "count" "I", Cond.fieldLink RX1 28 "BoxVault$OrderBook" "holds" "[Z", Cond.fieldLink RX1 15 "BoxVault$OrderBook" "box" "[I", Cond.fieldLink RX1 19 "BoxVault$OrderBook" "court" "[I", Cond.methodLink RX2 204 yX2_orderAllows, Cond.instanceMethod yX2_orderAllows, Cond.selects RX2 yX2_orderAllows yX2_orderAllows, Cond.code yX2_orderAllows cX2_orderAllows 4 (some .boolean), Cond.instanceMethod yX1_kindOf, Cond.selects RX1 yX1_kindOf yX1_kindOf, Cond.code yX1_kindOf cX1_kindOf 2 (some .int), Cond.fieldLink RX1 22 "BoxVault$OrderBook" "kind" "[I"]
def wsX2_may_r3 : List Cond := [Cond.methodLink RX1 32 yX1_has, Cond.instanceMethod yX1_has, Cond.selects RX1 yX1_has yX1_has, Cond.code yX1_has cX1_has 2 (some .boolean), Cond.instanceMethod yX1_personOf, Cond.selects RX1 yX1_personOf yX1_personOf, Cond.code yX1_personOf cX1_personOf 2 (some .int), Cond.fieldLink RX1 25 "BoxVault$OrderBook" "person" "[I", Cond.methodLink RX2 213 yX2_isHeirOfDead, Cond.instanceMethod yX2_isHeirOfDead, Cond.selects RX2 yX2_isHeirOfDead yX2_isHeirOfDead, Cond.code yX2_isHeirOfDead cX2_isHeirOfDead 3 (some .boolean), Cond.methodLink RX2 153 yX2_isHeir, Cond.instanceMethod yX2_isHeir, Cond.selects RX2 yX2_isHeir yX2_isHeir, Cond.code yX2_isHeir cX2_isHeir 3 (some .boolean), Cond.fieldLink RX2 26 "BoxVault" "heirs" "[I", Cond.methodLink RX2 207 yX2_holderAllows, Cond.instanceMethod yX2_holderAllows, Cond.selects RX2 yX2_holderAllows yX2_holderAllows, Cond.code yX2_holderAllows cX2_holderAllows 3 (some .boolean), Cond.fieldLink RX2 33 "BoxVault" "today" "I", Cond.instanceMethod yX0_noticesOn, Cond.selects RX0 yX0_noticesOn yX0_noticesOn]
def wsX2_may_r4 : List Cond := [Cond.code yX0_noticesOn cX0_noticesOn 2 (some .int), Cond.methodLink RX0 57 Lib.Math.min.name, Cond.static Lib.Math.min.name, Cond.initialized "java/lang/Math", Cond.code Lib.Math.min.name Lib.Math.min.code 2 (some .int), Cond.methodLink RX0 44 yX0_overdueOn, Cond.instanceMethod yX0_overdueOn, Cond.selects RX0 yX0_overdueOn yX0_overdueOn, Cond.code yX0_overdueOn cX0_overdueOn 2 (some .int), Cond.fieldLink RX0 18 "BoxVault$Box" "paidUpTo" "I", Cond.methodLink RX0 51 Lib.Math.max.name, Cond.static Lib.Math.max.name, Cond.code Lib.Math.max.name Lib.Math.max.code 2 (some .int), Cond.instanceMethod yX0_hasProxyOn, Cond.selects RX0 yX0_hasProxyOn yX0_hasProxyOn, Cond.code yX0_hasProxyOn cX0_hasProxyOn 4 (some .boolean), Cond.fieldLink RX0 31 "BoxVault$Box" "proxyCount" "I", Cond.fieldLink RX0 34 "BoxVault$Box" "proxyPerson" "[I", Cond.fieldLink RX0 38 "BoxVault$Box" "proxyFirst" "[I", Cond.fieldLink RX0 41 "BoxVault$Box" "proxyLast" "[I"]
def wsX2_may : List Cond := .code yX2_may cX2_may 4 (some .int) :: ((wsX2_may_r1 ++ (wsX2_may_r2 ++ (wsX2_may_r3 ++ wsX2_may_r4))) ++ wsX20 ++ wsX00 ++ wsX10 ++ (vx_atS RX2 98 "java/lang/IllegalArgumentException" ["java/lang/RuntimeException", "java/lang/Exception"]).filter goodWord)
def wsX2_mayAll_r1 : List Cond := [Cond.methodLink RX2 50 yX2_boxAt, Cond.instanceMethod yX2_boxAt, Cond.selects RX2 yX2_boxAt yX2_boxAt, Cond.initialized RX2, Cond.code yX2_boxAt cX2_boxAt 2 (some (.object "BoxVault$Box")), Cond.fieldLink RX2 11 "BoxVault" "boxes" "[LBoxVault$Box;", Cond.methodLink RX2 38 yX2_requireRange, Cond.static yX2_requireRange, Cond.code yX2_requireRange cX2_requireRange 3 none, Cond.classLink RX2 94 "java/lang/IllegalArgumentException", Cond.initialized "java/lang/IllegalArgumentException", Cond.methodLink RX2 81 yX2_rightOf, Cond.instanceMethod yX2_rightOf, Cond.selects RX2 yX2_rightOf yX2_rightOf, Cond.code yX2_rightOf cX2_rightOf 5 (some .int), Cond.fieldLink RX2 18 "BoxVault" "orders" "LBoxVault$OrderBook;", Cond.instanceMethod yX0_isRented, Cond.initialized RX0, Cond.selects RX0 yX0_isRented yX0_isRented, Cond.code yX0_isRented cX0_isRented 1 (some .boolean), Cond.fieldLink RX0 11 "BoxVault$Box" "state" "I", Cond.methodLink RX2 64 yX2_isAlive, Cond.instanceMethod yX2_isAlive, Cond.selects RX2 yX2_isAlive yX2_isAlive]
def wsX2_mayAll_r2 : List Cond := [Cond.code yX2_isAlive cX2_isAlive 2 (some .boolean), Cond.fieldLink RX2 22 "BoxVault" "dead" "[Z", Cond.methodLink RX2 201 yX2_isPerson, Cond.static yX2_isPerson, Cond.code yX2_isPerson cX2_isPerson 1 (some .boolean), Cond.instanceMethod yX1_bindingOn, Cond.initialized RX1, Cond.selects RX1 yX1_bindingOn yX1_bindingOn, Cond.code yX1_bindingOn cX1_bindingOn 4 (some .int), Cond.fieldLink RX1 9 "BoxVault$OrderBook" "count" "I", Cond.fieldLink RX1 28 "BoxVault$OrderBook" "holds" "[Z", Cond.fieldLink RX1 15 "BoxVault$OrderBook" "box" "[I", Cond.fieldLink RX1 19 "BoxVault$OrderBook" "court" "[I", Cond.methodLink RX2 204 yX2_orderAllows, Cond.instanceMethod yX2_orderAllows, Cond.selects RX2 yX2_orderAllows yX2_orderAllows, Cond.code yX2_orderAllows cX2_orderAllows 4 (some .boolean), Cond.instanceMethod yX1_kindOf, Cond.selects RX1 yX1_kindOf yX1_kindOf, Cond.code yX1_kindOf cX1_kindOf 2 (some .int), Cond.fieldLink RX1 22 "BoxVault$OrderBook" "kind" "[I", Cond.methodLink RX1 32 yX1_has, Cond.instanceMethod yX1_has, Cond.selects RX1 yX1_has yX1_has]
def wsX2_mayAll_r3 : List Cond := [Cond.code yX1_has cX1_has 2 (some .boolean), Cond.instanceMethod yX1_personOf, Cond.selects RX1 yX1_personOf yX1_personOf, Cond.code yX1_personOf cX1_personOf 2 (some .int), Cond.fieldLink RX1 25 "BoxVault$OrderBook" "person" "[I", Cond.methodLink RX2 213 yX2_isHeirOfDead, Cond.instanceMethod yX2_isHeirOfDead, Cond.selects RX2 yX2_isHeirOfDead yX2_isHeirOfDead, Cond.code yX2_isHeirOfDead cX2_isHeirOfDead 3 (some .boolean), Cond.methodLink RX2 153 yX2_isHeir, Cond.instanceMethod yX2_isHeir, Cond.selects RX2 yX2_isHeir yX2_isHeir, Cond.code yX2_isHeir cX2_isHeir 3 (some .boolean), Cond.fieldLink RX2 26 "BoxVault" "heirs" "[I", Cond.methodLink RX2 207 yX2_holderAllows, Cond.instanceMethod yX2_holderAllows, Cond.selects RX2 yX2_holderAllows yX2_holderAllows, Cond.code yX2_holderAllows cX2_holderAllows 3 (some .boolean), Cond.fieldLink RX2 33 "BoxVault" "today" "I", Cond.instanceMethod yX0_noticesOn, Cond.selects RX0 yX0_noticesOn yX0_noticesOn, Cond.code yX0_noticesOn cX0_noticesOn 2 (some .int), Cond.methodLink RX0 57 Lib.Math.min.name, Cond.static Lib.Math.min.name]
def wsX2_mayAll_r4 : List Cond := [Cond.initialized "java/lang/Math", Cond.code Lib.Math.min.name Lib.Math.min.code 2 (some .int), Cond.methodLink RX0 44 yX0_overdueOn, Cond.instanceMethod yX0_overdueOn, Cond.selects RX0 yX0_overdueOn yX0_overdueOn, Cond.code yX0_overdueOn cX0_overdueOn 2 (some .int), Cond.fieldLink RX0 18 "BoxVault$Box" "paidUpTo" "I", Cond.methodLink RX0 51 Lib.Math.max.name, Cond.static Lib.Math.max.name, Cond.code Lib.Math.max.name Lib.Math.max.code 2 (some .int), Cond.instanceMethod yX0_hasProxyOn, Cond.selects RX0 yX0_hasProxyOn yX0_hasProxyOn, Cond.code yX0_hasProxyOn cX0_hasProxyOn 4 (some .boolean), Cond.fieldLink RX0 31 "BoxVault$Box" "proxyCount" "I", Cond.fieldLink RX0 34 "BoxVault$Box" "proxyPerson" "[I", Cond.fieldLink RX0 38 "BoxVault$Box" "proxyFirst" "[I", Cond.fieldLink RX0 41 "BoxVault$Box" "proxyLast" "[I"]
def wsX2_mayAll : List Cond := .code yX2_mayAll cX2_mayAll 5 (some .int) :: ((wsX2_mayAll_r1 ++ (wsX2_mayAll_r2 ++ (wsX2_mayAll_r3 ++ wsX2_mayAll_r4))) ++ wsX20 ++ wsX00 ++ wsX10 ++ (vx_atS RX2 98 "java/lang/IllegalArgumentException" ["java/lang/RuntimeException", "java/lang/Exception"]).filter goodWord)
def wsX2_holder : List Cond := .code yX2_holder cX2_holder 2 (some .int) :: ([.methodLink RX2 50 yX2_boxAt, .instanceMethod yX2_boxAt, .selects RX2 yX2_boxAt yX2_boxAt, .initialized RX2, .code yX2_boxAt cX2_boxAt 2 (some (.object "BoxVault$Box")), .fieldLink RX2 11 "BoxVault" "boxes" "[LBoxVault$Box;", .methodLink RX2 38 yX2_requireRange, .static yX2_requireRange, .code yX2_requireRange cX2_requireRange 3 none, .classLink RX2 94 "java/lang/IllegalArgumentException", .initialized "java/lang/IllegalArgumentException"] ++ wsX00 ++ wsX20 ++ (vx_atS RX2 98 "java/lang/IllegalArgumentException" ["java/lang/RuntimeException", "java/lang/Exception"]).filter goodWord)
def wsX2_notices_r1 : List Cond := [Cond.fieldLink RX2 33 "BoxVault" "today" "I", Cond.methodLink RX2 50 yX2_boxAt, Cond.instanceMethod yX2_boxAt, Cond.selects RX2 yX2_boxAt yX2_boxAt, Cond.initialized RX2, Cond.code yX2_boxAt cX2_boxAt 2 (some (.object "BoxVault$Box")), Cond.fieldLink RX2 11 "BoxVault" "boxes" "[LBoxVault$Box;", Cond.methodLink RX2 38 yX2_requireRange, Cond.static yX2_requireRange, Cond.code yX2_requireRange cX2_requireRange 3 none, Cond.classLink RX2 94 "java/lang/IllegalArgumentException", Cond.initialized "java/lang/IllegalArgumentException", Cond.instanceMethod yX0_isRented, Cond.initialized RX0, Cond.selects RX0 yX0_isRented yX0_isRented, Cond.code yX0_isRented cX0_isRented 1 (some .boolean), Cond.fieldLink RX0 11 "BoxVault$Box" "state" "I", Cond.instanceMethod yX0_noticesOn, Cond.selects RX0 yX0_noticesOn yX0_noticesOn, Cond.code yX0_noticesOn cX0_noticesOn 2 (some .int), Cond.methodLink RX0 57 Lib.Math.min.name, Cond.static Lib.Math.min.name, Cond.initialized "java/lang/Math", Cond.code Lib.Math.min.name Lib.Math.min.code 2 (some .int)]
def wsX2_notices_r2 : List Cond := [Cond.methodLink RX0 44 yX0_overdueOn, Cond.instanceMethod yX0_overdueOn, Cond.selects RX0 yX0_overdueOn yX0_overdueOn, Cond.code yX0_overdueOn cX0_overdueOn 2 (some .int), Cond.fieldLink RX0 18 "BoxVault$Box" "paidUpTo" "I", Cond.methodLink RX0 51 Lib.Math.max.name, Cond.static Lib.Math.max.name, Cond.code Lib.Math.max.name Lib.Math.max.code 2 (some .int)]
def wsX2_notices : List Cond := .code yX2_notices cX2_notices 3 (some .int) :: ((wsX2_notices_r1 ++ wsX2_notices_r2) ++ wsX20 ++ wsX00 ++ (vx_atS RX2 98 "java/lang/IllegalArgumentException" ["java/lang/RuntimeException", "java/lang/Exception"]).filter goodWord)
def wsX2_refusals : List Cond := .code yX2_refusals cX2_refusals 2 (some .int) :: ([.fieldLink RX2 30 "BoxVault" "refused" "[I", .methodLink RX2 54 yX2_requirePerson, .static yX2_requirePerson, .initialized RX2, .code yX2_requirePerson cX2_requirePerson 1 none, .methodLink RX2 38 yX2_requireRange, .static yX2_requireRange, .code yX2_requireRange cX2_requireRange 3 none, .classLink RX2 94 "java/lang/IllegalArgumentException", .initialized "java/lang/IllegalArgumentException"] ++ wsX20 ++ (vx_atS RX2 98 "java/lang/IllegalArgumentException" ["java/lang/RuntimeException", "java/lang/Exception"]).filter goodWord)
def wsX2_binding : List Cond := .code yX2_binding cX2_binding 2 (some .int) :: ([.fieldLink RX2 18 "BoxVault" "orders" "LBoxVault$OrderBook;", .methodLink RX2 38 yX2_requireRange, .static yX2_requireRange, .initialized RX2, .code yX2_requireRange cX2_requireRange 3 none, .classLink RX2 94 "java/lang/IllegalArgumentException", .initialized "java/lang/IllegalArgumentException", .instanceMethod yX1_bindingOn, .initialized RX1, .selects RX1 yX1_bindingOn yX1_bindingOn, .code yX1_bindingOn cX1_bindingOn 4 (some .int), .fieldLink RX1 9 "BoxVault$OrderBook" "count" "I", .fieldLink RX1 28 "BoxVault$OrderBook" "holds" "[Z", .fieldLink RX1 15 "BoxVault$OrderBook" "box" "[I", .fieldLink RX1 19 "BoxVault$OrderBook" "court" "[I"] ++ wsX20 ++ wsX10 ++ (vx_atS RX2 98 "java/lang/IllegalArgumentException" ["java/lang/RuntimeException", "java/lang/Exception"]).filter goodWord)
def wsX3_init : List Cond := .code yX3_init cX3_init 1 none :: ([.methodLink RX3 1 objectInit, .instanceMethod objectInit, .code objectInit ⟨#[0xb1]⟩ 1 none, .arrayClass .boolean, .fieldLink RX3 7 "BoxVaultModel" "dead" "[Z", .arrayClass .int, .fieldLink RX3 13 "BoxVaultModel" "heirs" "[I", .fieldLink RX3 17 "BoxVaultModel" "refusals" "[I", .fieldLink RX3 20 "BoxVaultModel" "state" "[I", .fieldLink RX3 23 "BoxVaultModel" "holder" "[I", .fieldLink RX3 26 "BoxVaultModel" "paid" "[I", .fieldLink RX3 29 "BoxVaultModel" "entries" "[I", .fieldLink RX3 32 "BoxVaultModel" "looked" "[Z", .fieldLink RX3 35 "BoxVaultModel" "owed" "[I", .fieldLink RX3 38 "BoxVaultModel" "proxies" "[I", .fieldLink RX3 41 "BoxVaultModel" "proxy" "[I", .fieldLink RX3 44 "BoxVaultModel" "from" "[I", .fieldLink RX3 47 "BoxVaultModel" "to" "[I", .fieldLink RX3 50 "BoxVaultModel" "at" "[I", .fieldLink RX3 53 "BoxVaultModel" "court" "[I", .fieldLink RX3 56 "BoxVaultModel" "kind" "[I", .fieldLink RX3 59 "BoxVaultModel" "alone" "[I", .fieldLink RX3 62 "BoxVaultModel" "holds" "[Z"] ++ wsX30)
def wsX3_thrown : List Cond := .code yX3_thrown cX3_thrown 1 (some .int) :: ([.fieldLink RX3 65 "BoxVaultModel" "thrown" "I"] ++ wsX30)
def wsX3_fails : List Cond := .code yX3_fails cX3_fails 2 (some .int) :: ([.fieldLink RX3 65 "BoxVaultModel" "thrown" "I"] ++ wsX30)
def wsX3_in : List Cond := .code yX3_in cX3_in 3 (some .boolean) :: ([])
def wsX3_isBox : List Cond := .code yX3_isBox cX3_isBox 1 (some .boolean) :: ([.methodLink RX3 69 yX3_in, .static yX3_in, .initialized RX3, .code yX3_in cX3_in 3 (some .boolean)])
def wsX3_isPerson : List Cond := .code yX3_isPerson cX3_isPerson 1 (some .boolean) :: ([.methodLink RX3 69 yX3_in, .static yX3_in, .initialized RX3, .code yX3_in cX3_in 3 (some .boolean)])
def wsX3_isRented : List Cond := .code yX3_isRented cX3_isRented 2 (some .boolean) :: ([.fieldLink RX3 20 "BoxVaultModel" "state" "[I"] ++ wsX30)
def wsX3_overdue : List Cond := .code yX3_overdue cX3_overdue 2 (some .int) :: ([.fieldLink RX3 73 "BoxVaultModel" "now" "I", .fieldLink RX3 26 "BoxVaultModel" "paid" "[I"] ++ wsX30)
def wsX3_noticesOf : List Cond := .code yX3_noticesOf cX3_noticesOf 3 (some .int) :: ([.methodLink RX3 76 yX3_overdue, .instanceMethod yX3_overdue, .selects RX3 yX3_overdue yX3_overdue, .initialized RX3, .code yX3_overdue cX3_overdue 2 (some .int), .fieldLink RX3 73 "BoxVaultModel" "now" "I", .fieldLink RX3 26 "BoxVaultModel" "paid" "[I", .methodLink RX3 80 yX3_isRented, .instanceMethod yX3_isRented, .selects RX3 yX3_isRented yX3_isRented, .code yX3_isRented cX3_isRented 2 (some .boolean), .fieldLink RX3 20 "BoxVaultModel" "state" "[I"] ++ wsX30)
def wsX3_binds : List Cond := .code yX3_binds cX3_binds 5 (some .int) :: ([.fieldLink RX3 84 "BoxVaultModel" "orders" "I", .fieldLink RX3 62 "BoxVaultModel" "holds" "[Z", .fieldLink RX3 50 "BoxVaultModel" "at" "[I", .fieldLink RX3 53 "BoxVaultModel" "court" "[I"] ++ wsX30)
def wsX3_isHeir : List Cond := .code yX3_isHeir cX3_isHeir 3 (some .boolean) :: ([.fieldLink RX3 13 "BoxVaultModel" "heirs" "[I"] ++ wsX30)
def wsX3_isOrdered : List Cond := .code yX3_isOrdered cX3_isOrdered 4 (some .boolean) :: ([.fieldLink RX3 23 "BoxVaultModel" "holder" "[I", .fieldLink RX3 50 "BoxVaultModel" "at" "[I", .fieldLink RX3 56 "BoxVaultModel" "kind" "[I", .fieldLink RX3 59 "BoxVaultModel" "alone" "[I", .fieldLink RX3 7 "BoxVaultModel" "dead" "[Z", .methodLink RX3 87 yX3_isHeir, .instanceMethod yX3_isHeir, .selects RX3 yX3_isHeir yX3_isHeir, .initialized RX3, .code yX3_isHeir cX3_isHeir 3 (some .boolean), .fieldLink RX3 13 "BoxVaultModel" "heirs" "[I"] ++ wsX30)
def wsX3_isProxy : List Cond := .code yX3_isProxy cX3_isProxy 5 (some .boolean) :: ([.fieldLink RX3 38 "BoxVaultModel" "proxies" "[I", .fieldLink RX3 41 "BoxVaultModel" "proxy" "[I", .fieldLink RX3 73 "BoxVaultModel" "now" "I", .fieldLink RX3 44 "BoxVaultModel" "from" "[I", .fieldLink RX3 47 "BoxVaultModel" "to" "[I", .methodLink RX3 69 yX3_in, .static yX3_in, .initialized RX3, .code yX3_in cX3_in 3 (some .boolean)] ++ wsX30)
def wsX3_right_r1 : List Cond := [Cond.fieldLink RX3 7 "BoxVaultModel" "dead" "[Z", Cond.fieldLink RX3 23 "BoxVaultModel" "holder" "[I", Cond.fieldLink RX3 32 "BoxVaultModel" "looked" "[Z", Cond.methodLink RX3 80 yX3_isRented, Cond.instanceMethod yX3_isRented, Cond.selects RX3 yX3_isRented yX3_isRented, Cond.initialized RX3, Cond.code yX3_isRented cX3_isRented 2 (some .boolean), Cond.fieldLink RX3 20 "BoxVaultModel" "state" "[I", Cond.methodLink RX3 91 yX3_binds, Cond.instanceMethod yX3_binds, Cond.selects RX3 yX3_binds yX3_binds, Cond.code yX3_binds cX3_binds 5 (some .int), Cond.fieldLink RX3 84 "BoxVaultModel" "orders" "I", Cond.fieldLink RX3 62 "BoxVaultModel" "holds" "[Z", Cond.fieldLink RX3 50 "BoxVaultModel" "at" "[I", Cond.fieldLink RX3 53 "BoxVaultModel" "court" "[I", Cond.methodLink RX3 94 yX3_isOrdered, Cond.instanceMethod yX3_isOrdered, Cond.selects RX3 yX3_isOrdered yX3_isOrdered, Cond.code yX3_isOrdered cX3_isOrdered 4 (some .boolean), Cond.fieldLink RX3 56 "BoxVaultModel" "kind" "[I", Cond.fieldLink RX3 59 "BoxVaultModel" "alone" "[I", Cond.methodLink RX3 87 yX3_isHeir]
def wsX3_right_r2 : List Cond := [Cond.instanceMethod yX3_isHeir, Cond.selects RX3 yX3_isHeir yX3_isHeir, Cond.code yX3_isHeir cX3_isHeir 3 (some .boolean), Cond.fieldLink RX3 13 "BoxVaultModel" "heirs" "[I", Cond.methodLink RX3 97 yX3_noticesOf, Cond.instanceMethod yX3_noticesOf, Cond.selects RX3 yX3_noticesOf yX3_noticesOf, Cond.code yX3_noticesOf cX3_noticesOf 3 (some .int), Cond.methodLink RX3 76 yX3_overdue, Cond.instanceMethod yX3_overdue, Cond.selects RX3 yX3_overdue yX3_overdue, Cond.code yX3_overdue cX3_overdue 2 (some .int), Cond.fieldLink RX3 73 "BoxVaultModel" "now" "I", Cond.fieldLink RX3 26 "BoxVaultModel" "paid" "[I", Cond.methodLink RX3 100 yX3_isProxy, Cond.instanceMethod yX3_isProxy, Cond.selects RX3 yX3_isProxy yX3_isProxy, Cond.code yX3_isProxy cX3_isProxy 5 (some .boolean), Cond.fieldLink RX3 38 "BoxVaultModel" "proxies" "[I", Cond.fieldLink RX3 41 "BoxVaultModel" "proxy" "[I", Cond.fieldLink RX3 44 "BoxVaultModel" "from" "[I", Cond.fieldLink RX3 47 "BoxVaultModel" "to" "[I", Cond.methodLink RX3 69 yX3_in, Cond.static yX3_in]
def wsX3_right_r3 : List Cond := [Cond.code yX3_in cX3_in 3 (some .boolean)]
def wsX3_right : List Cond := .code yX3_right cX3_right 4 (some .int) :: ((wsX3_right_r1 ++ (wsX3_right_r2 ++ wsX3_right_r3)) ++ wsX30)
def wsX3_frees : List Cond := .code yX3_frees cX3_frees 3 none :: ([.fieldLink RX3 20 "BoxVaultModel" "state" "[I", .fieldLink RX3 38 "BoxVaultModel" "proxies" "[I", .fieldLink RX3 84 "BoxVaultModel" "orders" "I", .fieldLink RX3 62 "BoxVaultModel" "holds" "[Z", .fieldLink RX3 50 "BoxVaultModel" "at" "[I"] ++ wsX30)
def wsX3_pass : List Cond := .code yX3_pass cX3_pass 2 (some .int) :: ([.fieldLink RX3 65 "BoxVaultModel" "thrown" "I", .fieldLink RX3 73 "BoxVaultModel" "now" "I", .constant RX3 106 (99999), .methodLink RX3 69 yX3_in, .static yX3_in, .initialized RX3, .code yX3_in cX3_in 3 (some .boolean), .methodLink RX3 103 yX3_fails, .instanceMethod yX3_fails, .selects RX3 yX3_fails yX3_fails, .code yX3_fails cX3_fails 2 (some .int)] ++ wsX30)
def wsX3_rent : List Cond := .code yX3_rent cX3_rent 4 (some .int) :: ([.fieldLink RX3 65 "BoxVaultModel" "thrown" "I", .fieldLink RX3 20 "BoxVaultModel" "state" "[I", .fieldLink RX3 7 "BoxVaultModel" "dead" "[Z", .fieldLink RX3 23 "BoxVaultModel" "holder" "[I", .fieldLink RX3 26 "BoxVaultModel" "paid" "[I", .fieldLink RX3 73 "BoxVaultModel" "now" "I", .fieldLink RX3 29 "BoxVaultModel" "entries" "[I", .fieldLink RX3 32 "BoxVaultModel" "looked" "[Z", .methodLink RX3 107 yX3_isBox, .static yX3_isBox, .initialized RX3, .code yX3_isBox cX3_isBox 1 (some .boolean), .methodLink RX3 69 yX3_in, .static yX3_in, .code yX3_in cX3_in 3 (some .boolean), .methodLink RX3 110 yX3_isPerson, .static yX3_isPerson, .code yX3_isPerson cX3_isPerson 1 (some .boolean), .methodLink RX3 103 yX3_fails, .instanceMethod yX3_fails, .selects RX3 yX3_fails yX3_fails, .code yX3_fails cX3_fails 2 (some .int)] ++ wsX30)
def wsX3_extend : List Cond := .code yX3_extend cX3_extend 3 (some .int) :: ([.fieldLink RX3 65 "BoxVaultModel" "thrown" "I", .fieldLink RX3 26 "BoxVaultModel" "paid" "[I", .methodLink RX3 107 yX3_isBox, .static yX3_isBox, .initialized RX3, .code yX3_isBox cX3_isBox 1 (some .boolean), .methodLink RX3 69 yX3_in, .static yX3_in, .code yX3_in cX3_in 3 (some .boolean), .methodLink RX3 103 yX3_fails, .instanceMethod yX3_fails, .selects RX3 yX3_fails yX3_fails, .code yX3_fails cX3_fails 2 (some .int), .methodLink RX3 80 yX3_isRented, .instanceMethod yX3_isRented, .selects RX3 yX3_isRented yX3_isRented, .code yX3_isRented cX3_isRented 2 (some .boolean), .fieldLink RX3 20 "BoxVaultModel" "state" "[I"] ++ wsX30)
def wsX3_giveBack_r1 : List Cond := [Cond.fieldLink RX3 65 "BoxVaultModel" "thrown" "I", Cond.fieldLink RX3 29 "BoxVaultModel" "entries" "[I", Cond.methodLink RX3 107 yX3_isBox, Cond.static yX3_isBox, Cond.initialized RX3, Cond.code yX3_isBox cX3_isBox 1 (some .boolean), Cond.methodLink RX3 69 yX3_in, Cond.static yX3_in, Cond.code yX3_in cX3_in 3 (some .boolean), Cond.methodLink RX3 110 yX3_isPerson, Cond.static yX3_isPerson, Cond.code yX3_isPerson cX3_isPerson 1 (some .boolean), Cond.methodLink RX3 103 yX3_fails, Cond.instanceMethod yX3_fails, Cond.selects RX3 yX3_fails yX3_fails, Cond.code yX3_fails cX3_fails 2 (some .int), Cond.methodLink RX3 113 yX3_right, Cond.instanceMethod yX3_right, Cond.selects RX3 yX3_right yX3_right, Cond.code yX3_right cX3_right 4 (some .int), Cond.fieldLink RX3 7 "BoxVaultModel" "dead" "[Z", Cond.fieldLink RX3 23 "BoxVaultModel" "holder" "[I", Cond.fieldLink RX3 32 "BoxVaultModel" "looked" "[Z", Cond.methodLink RX3 80 yX3_isRented]
def wsX3_giveBack_r2 : List Cond := [Cond.instanceMethod yX3_isRented, Cond.selects RX3 yX3_isRented yX3_isRented, Cond.code yX3_isRented cX3_isRented 2 (some .boolean), Cond.fieldLink RX3 20 "BoxVaultModel" "state" "[I", Cond.methodLink RX3 91 yX3_binds, Cond.instanceMethod yX3_binds, Cond.selects RX3 yX3_binds yX3_binds, Cond.code yX3_binds cX3_binds 5 (some .int), Cond.fieldLink RX3 84 "BoxVaultModel" "orders" "I", Cond.fieldLink RX3 62 "BoxVaultModel" "holds" "[Z", Cond.fieldLink RX3 50 "BoxVaultModel" "at" "[I", Cond.fieldLink RX3 53 "BoxVaultModel" "court" "[I", Cond.methodLink RX3 94 yX3_isOrdered, Cond.instanceMethod yX3_isOrdered, Cond.selects RX3 yX3_isOrdered yX3_isOrdered, Cond.code yX3_isOrdered cX3_isOrdered 4 (some .boolean), Cond.fieldLink RX3 56 "BoxVaultModel" "kind" "[I", Cond.fieldLink RX3 59 "BoxVaultModel" "alone" "[I", Cond.methodLink RX3 87 yX3_isHeir, Cond.instanceMethod yX3_isHeir, Cond.selects RX3 yX3_isHeir yX3_isHeir, Cond.code yX3_isHeir cX3_isHeir 3 (some .boolean), Cond.fieldLink RX3 13 "BoxVaultModel" "heirs" "[I", Cond.methodLink RX3 97 yX3_noticesOf]
def wsX3_giveBack_r3 : List Cond := [Cond.instanceMethod yX3_noticesOf, Cond.selects RX3 yX3_noticesOf yX3_noticesOf, Cond.code yX3_noticesOf cX3_noticesOf 3 (some .int), Cond.methodLink RX3 76 yX3_overdue, Cond.instanceMethod yX3_overdue, Cond.selects RX3 yX3_overdue yX3_overdue, Cond.code yX3_overdue cX3_overdue 2 (some .int), Cond.fieldLink RX3 73 "BoxVaultModel" "now" "I", Cond.fieldLink RX3 26 "BoxVaultModel" "paid" "[I", Cond.methodLink RX3 100 yX3_isProxy, Cond.instanceMethod yX3_isProxy, Cond.selects RX3 yX3_isProxy yX3_isProxy, Cond.code yX3_isProxy cX3_isProxy 5 (some .boolean), Cond.fieldLink RX3 38 "BoxVaultModel" "proxies" "[I", Cond.fieldLink RX3 41 "BoxVaultModel" "proxy" "[I", Cond.fieldLink RX3 44 "BoxVaultModel" "from" "[I", Cond.fieldLink RX3 47 "BoxVaultModel" "to" "[I", Cond.methodLink RX3 117 yX3_frees, Cond.instanceMethod yX3_frees, Cond.selects RX3 yX3_frees yX3_frees, Cond.code yX3_frees cX3_frees 3 none]
def wsX3_giveBack : List Cond := .code yX3_giveBack cX3_giveBack 3 (some .int) :: ((wsX3_giveBack_r1 ++ (wsX3_giveBack_r2 ++ wsX3_giveBack_r3)) ++ wsX30)
def wsX3_drill_r1 : List Cond := [Cond.fieldLink RX3 65 "BoxVaultModel" "thrown" "I", Cond.fieldLink RX3 7 "BoxVaultModel" "dead" "[Z", Cond.fieldLink RX3 23 "BoxVaultModel" "holder" "[I", Cond.fieldLink RX3 56 "BoxVaultModel" "kind" "[I", Cond.fieldLink RX3 35 "BoxVaultModel" "owed" "[I", Cond.fieldLink RX3 20 "BoxVaultModel" "state" "[I", Cond.methodLink RX3 107 yX3_isBox, Cond.static yX3_isBox, Cond.initialized RX3, Cond.code yX3_isBox cX3_isBox 1 (some .boolean), Cond.methodLink RX3 69 yX3_in, Cond.static yX3_in, Cond.code yX3_in cX3_in 3 (some .boolean), Cond.methodLink RX3 110 yX3_isPerson, Cond.static yX3_isPerson, Cond.code yX3_isPerson cX3_isPerson 1 (some .boolean), Cond.methodLink RX3 103 yX3_fails, Cond.instanceMethod yX3_fails, Cond.selects RX3 yX3_fails yX3_fails, Cond.code yX3_fails cX3_fails 2 (some .int), Cond.methodLink RX3 91 yX3_binds, Cond.instanceMethod yX3_binds, Cond.selects RX3 yX3_binds yX3_binds, Cond.code yX3_binds cX3_binds 5 (some .int)]
def wsX3_drill_r2 : List Cond := [Cond.fieldLink RX3 84 "BoxVaultModel" "orders" "I", Cond.fieldLink RX3 62 "BoxVaultModel" "holds" "[Z", Cond.fieldLink RX3 50 "BoxVaultModel" "at" "[I", Cond.fieldLink RX3 53 "BoxVaultModel" "court" "[I", Cond.methodLink RX3 97 yX3_noticesOf, Cond.instanceMethod yX3_noticesOf, Cond.selects RX3 yX3_noticesOf yX3_noticesOf, Cond.code yX3_noticesOf cX3_noticesOf 3 (some .int), Cond.methodLink RX3 76 yX3_overdue, Cond.instanceMethod yX3_overdue, Cond.selects RX3 yX3_overdue yX3_overdue, Cond.code yX3_overdue cX3_overdue 2 (some .int), Cond.fieldLink RX3 73 "BoxVaultModel" "now" "I", Cond.fieldLink RX3 26 "BoxVaultModel" "paid" "[I", Cond.methodLink RX3 80 yX3_isRented, Cond.instanceMethod yX3_isRented, Cond.selects RX3 yX3_isRented yX3_isRented, Cond.code yX3_isRented cX3_isRented 2 (some .boolean)]
def wsX3_drill : List Cond := .code yX3_drill cX3_drill 6 (some .int) :: ((wsX3_drill_r1 ++ wsX3_drill_r2) ++ wsX30)
def wsX3_fetch_r1 : List Cond := [Cond.fieldLink RX3 65 "BoxVaultModel" "thrown" "I", Cond.fieldLink RX3 20 "BoxVaultModel" "state" "[I", Cond.fieldLink RX3 7 "BoxVaultModel" "dead" "[Z", Cond.fieldLink RX3 23 "BoxVaultModel" "holder" "[I", Cond.fieldLink RX3 35 "BoxVaultModel" "owed" "[I", Cond.methodLink RX3 107 yX3_isBox, Cond.static yX3_isBox, Cond.initialized RX3, Cond.code yX3_isBox cX3_isBox 1 (some .boolean), Cond.methodLink RX3 69 yX3_in, Cond.static yX3_in, Cond.code yX3_in cX3_in 3 (some .boolean), Cond.methodLink RX3 110 yX3_isPerson, Cond.static yX3_isPerson, Cond.code yX3_isPerson cX3_isPerson 1 (some .boolean), Cond.methodLink RX3 103 yX3_fails, Cond.instanceMethod yX3_fails, Cond.selects RX3 yX3_fails yX3_fails, Cond.code yX3_fails cX3_fails 2 (some .int), Cond.methodLink RX3 91 yX3_binds, Cond.instanceMethod yX3_binds, Cond.selects RX3 yX3_binds yX3_binds, Cond.code yX3_binds cX3_binds 5 (some .int), Cond.fieldLink RX3 84 "BoxVaultModel" "orders" "I"]
def wsX3_fetch_r2 : List Cond := [Cond.fieldLink RX3 62 "BoxVaultModel" "holds" "[Z", Cond.fieldLink RX3 50 "BoxVaultModel" "at" "[I", Cond.fieldLink RX3 53 "BoxVaultModel" "court" "[I", Cond.methodLink RX3 94 yX3_isOrdered, Cond.instanceMethod yX3_isOrdered, Cond.selects RX3 yX3_isOrdered yX3_isOrdered, Cond.code yX3_isOrdered cX3_isOrdered 4 (some .boolean), Cond.fieldLink RX3 56 "BoxVaultModel" "kind" "[I", Cond.fieldLink RX3 59 "BoxVaultModel" "alone" "[I", Cond.methodLink RX3 87 yX3_isHeir, Cond.instanceMethod yX3_isHeir, Cond.selects RX3 yX3_isHeir yX3_isHeir, Cond.code yX3_isHeir cX3_isHeir 3 (some .boolean), Cond.fieldLink RX3 13 "BoxVaultModel" "heirs" "[I", Cond.methodLink RX3 117 yX3_frees, Cond.instanceMethod yX3_frees, Cond.selects RX3 yX3_frees yX3_frees, Cond.code yX3_frees cX3_frees 3 none, Cond.fieldLink RX3 38 "BoxVaultModel" "proxies" "[I"]
def wsX3_fetch : List Cond := .code yX3_fetch cX3_fetch 5 (some .int) :: ((wsX3_fetch_r1 ++ wsX3_fetch_r2) ++ wsX30)
def wsX3_proxy_r1 : List Cond := [Cond.fieldLink RX3 65 "BoxVaultModel" "thrown" "I", Cond.constant RX3 106 (99999), Cond.fieldLink RX3 7 "BoxVaultModel" "dead" "[Z", Cond.fieldLink RX3 23 "BoxVaultModel" "holder" "[I", Cond.fieldLink RX3 38 "BoxVaultModel" "proxies" "[I", Cond.fieldLink RX3 41 "BoxVaultModel" "proxy" "[I", Cond.fieldLink RX3 44 "BoxVaultModel" "from" "[I", Cond.fieldLink RX3 47 "BoxVaultModel" "to" "[I", Cond.methodLink RX3 107 yX3_isBox, Cond.static yX3_isBox, Cond.initialized RX3, Cond.code yX3_isBox cX3_isBox 1 (some .boolean), Cond.methodLink RX3 69 yX3_in, Cond.static yX3_in, Cond.code yX3_in cX3_in 3 (some .boolean), Cond.methodLink RX3 110 yX3_isPerson, Cond.static yX3_isPerson, Cond.code yX3_isPerson cX3_isPerson 1 (some .boolean), Cond.methodLink RX3 103 yX3_fails, Cond.instanceMethod yX3_fails, Cond.selects RX3 yX3_fails yX3_fails, Cond.code yX3_fails cX3_fails 2 (some .int), Cond.methodLink RX3 80 yX3_isRented, Cond.instanceMethod yX3_isRented]
def wsX3_proxy_r2 : List Cond := [Cond.selects RX3 yX3_isRented yX3_isRented, Cond.code yX3_isRented cX3_isRented 2 (some .boolean), Cond.fieldLink RX3 20 "BoxVaultModel" "state" "[I"]
def wsX3_proxy : List Cond := .code yX3_proxy cX3_proxy 6 (some .int) :: ((wsX3_proxy_r1 ++ wsX3_proxy_r2) ++ wsX30)
def wsX3_heir : List Cond := .code yX3_heir cX3_heir 5 (some .boolean) :: ([.fieldLink RX3 65 "BoxVaultModel" "thrown" "I", .fieldLink RX3 13 "BoxVaultModel" "heirs" "[I", .methodLink RX3 110 yX3_isPerson, .static yX3_isPerson, .initialized RX3, .code yX3_isPerson cX3_isPerson 1 (some .boolean), .methodLink RX3 69 yX3_in, .static yX3_in, .code yX3_in cX3_in 3 (some .boolean), .methodLink RX3 87 yX3_isHeir, .instanceMethod yX3_isHeir, .selects RX3 yX3_isHeir yX3_isHeir, .code yX3_isHeir cX3_isHeir 3 (some .boolean)] ++ wsX30)
def wsX3_die : List Cond := .code yX3_die cX3_die 5 (some .int) :: ([.fieldLink RX3 65 "BoxVaultModel" "thrown" "I", .fieldLink RX3 7 "BoxVaultModel" "dead" "[Z", .fieldLink RX3 20 "BoxVaultModel" "state" "[I", .fieldLink RX3 23 "BoxVaultModel" "holder" "[I", .fieldLink RX3 38 "BoxVaultModel" "proxies" "[I", .methodLink RX3 110 yX3_isPerson, .static yX3_isPerson, .initialized RX3, .code yX3_isPerson cX3_isPerson 1 (some .boolean), .methodLink RX3 69 yX3_in, .static yX3_in, .code yX3_in cX3_in 3 (some .boolean), .methodLink RX3 103 yX3_fails, .instanceMethod yX3_fails, .selects RX3 yX3_fails yX3_fails, .code yX3_fails cX3_fails 2 (some .int), .methodLink RX3 80 yX3_isRented, .instanceMethod yX3_isRented, .selects RX3 yX3_isRented yX3_isRented, .code yX3_isRented cX3_isRented 2 (some .boolean)] ++ wsX30)
def wsX3_order : List Cond := .code yX3_order cX3_order 5 (some .int) :: ([.fieldLink RX3 65 "BoxVaultModel" "thrown" "I", .fieldLink RX3 20 "BoxVaultModel" "state" "[I", .fieldLink RX3 84 "BoxVaultModel" "orders" "I", .fieldLink RX3 50 "BoxVaultModel" "at" "[I", .fieldLink RX3 53 "BoxVaultModel" "court" "[I", .fieldLink RX3 56 "BoxVaultModel" "kind" "[I", .fieldLink RX3 59 "BoxVaultModel" "alone" "[I", .fieldLink RX3 62 "BoxVaultModel" "holds" "[Z", .methodLink RX3 107 yX3_isBox, .static yX3_isBox, .initialized RX3, .code yX3_isBox cX3_isBox 1 (some .boolean), .methodLink RX3 69 yX3_in, .static yX3_in, .code yX3_in cX3_in 3 (some .boolean), .methodLink RX3 110 yX3_isPerson, .static yX3_isPerson, .code yX3_isPerson cX3_isPerson 1 (some .boolean), .methodLink RX3 103 yX3_fails, .instanceMethod yX3_fails, .selects RX3 yX3_fails yX3_fails, .code yX3_fails cX3_fails 2 (some .int)] ++ wsX30)
def wsX3_lift : List Cond := .code yX3_lift cX3_lift 3 (some .boolean) :: ([.fieldLink RX3 84 "BoxVaultModel" "orders" "I", .fieldLink RX3 62 "BoxVaultModel" "holds" "[Z", .fieldLink RX3 65 "BoxVaultModel" "thrown" "I", .fieldLink RX3 50 "BoxVaultModel" "at" "[I", .methodLink RX3 69 yX3_in, .static yX3_in, .initialized RX3, .code yX3_in cX3_in 3 (some .boolean), .methodLink RX3 91 yX3_binds, .instanceMethod yX3_binds, .selects RX3 yX3_binds yX3_binds, .code yX3_binds cX3_binds 5 (some .int), .fieldLink RX3 53 "BoxVaultModel" "court" "[I"] ++ wsX30)
def wsX3_enter_r1 : List Cond := [Cond.fieldLink RX3 65 "BoxVaultModel" "thrown" "I", Cond.fieldLink RX3 17 "BoxVaultModel" "refusals" "[I", Cond.fieldLink RX3 29 "BoxVaultModel" "entries" "[I", Cond.fieldLink RX3 32 "BoxVaultModel" "looked" "[Z", Cond.methodLink RX3 107 yX3_isBox, Cond.static yX3_isBox, Cond.initialized RX3, Cond.code yX3_isBox cX3_isBox 1 (some .boolean), Cond.methodLink RX3 69 yX3_in, Cond.static yX3_in, Cond.code yX3_in cX3_in 3 (some .boolean), Cond.methodLink RX3 110 yX3_isPerson, Cond.static yX3_isPerson, Cond.code yX3_isPerson cX3_isPerson 1 (some .boolean), Cond.methodLink RX3 103 yX3_fails, Cond.instanceMethod yX3_fails, Cond.selects RX3 yX3_fails yX3_fails, Cond.code yX3_fails cX3_fails 2 (some .int), Cond.methodLink RX3 80 yX3_isRented, Cond.instanceMethod yX3_isRented, Cond.selects RX3 yX3_isRented yX3_isRented, Cond.code yX3_isRented cX3_isRented 2 (some .boolean), Cond.fieldLink RX3 20 "BoxVaultModel" "state" "[I", Cond.methodLink RX3 113 yX3_right]
def wsX3_enter_r2 : List Cond := [Cond.instanceMethod yX3_right, Cond.selects RX3 yX3_right yX3_right, Cond.code yX3_right cX3_right 4 (some .int), Cond.fieldLink RX3 7 "BoxVaultModel" "dead" "[Z", Cond.fieldLink RX3 23 "BoxVaultModel" "holder" "[I", Cond.methodLink RX3 91 yX3_binds, Cond.instanceMethod yX3_binds, Cond.selects RX3 yX3_binds yX3_binds, Cond.code yX3_binds cX3_binds 5 (some .int), Cond.fieldLink RX3 84 "BoxVaultModel" "orders" "I", Cond.fieldLink RX3 62 "BoxVaultModel" "holds" "[Z", Cond.fieldLink RX3 50 "BoxVaultModel" "at" "[I", Cond.fieldLink RX3 53 "BoxVaultModel" "court" "[I", Cond.methodLink RX3 94 yX3_isOrdered, Cond.instanceMethod yX3_isOrdered, Cond.selects RX3 yX3_isOrdered yX3_isOrdered, Cond.code yX3_isOrdered cX3_isOrdered 4 (some .boolean), Cond.fieldLink RX3 56 "BoxVaultModel" "kind" "[I", Cond.fieldLink RX3 59 "BoxVaultModel" "alone" "[I", Cond.methodLink RX3 87 yX3_isHeir, Cond.instanceMethod yX3_isHeir, Cond.selects RX3 yX3_isHeir yX3_isHeir, Cond.code yX3_isHeir cX3_isHeir 3 (some .boolean), Cond.fieldLink RX3 13 "BoxVaultModel" "heirs" "[I"]
def wsX3_enter_r3 : List Cond := [Cond.methodLink RX3 97 yX3_noticesOf, Cond.instanceMethod yX3_noticesOf, Cond.selects RX3 yX3_noticesOf yX3_noticesOf, Cond.code yX3_noticesOf cX3_noticesOf 3 (some .int), Cond.methodLink RX3 76 yX3_overdue, Cond.instanceMethod yX3_overdue, Cond.selects RX3 yX3_overdue yX3_overdue, Cond.code yX3_overdue cX3_overdue 2 (some .int), Cond.fieldLink RX3 73 "BoxVaultModel" "now" "I", Cond.fieldLink RX3 26 "BoxVaultModel" "paid" "[I", Cond.methodLink RX3 100 yX3_isProxy, Cond.instanceMethod yX3_isProxy, Cond.selects RX3 yX3_isProxy yX3_isProxy, Cond.code yX3_isProxy cX3_isProxy 5 (some .boolean), Cond.fieldLink RX3 38 "BoxVaultModel" "proxies" "[I", Cond.fieldLink RX3 41 "BoxVaultModel" "proxy" "[I", Cond.fieldLink RX3 44 "BoxVaultModel" "from" "[I", Cond.fieldLink RX3 47 "BoxVaultModel" "to" "[I"]
def wsX3_enter : List Cond := .code yX3_enter cX3_enter 6 (some .int) :: ((wsX3_enter_r1 ++ (wsX3_enter_r2 ++ wsX3_enter_r3)) ++ wsX30)
def wsX3_may_r1 : List Cond := [Cond.fieldLink RX3 65 "BoxVaultModel" "thrown" "I", Cond.methodLink RX3 107 yX3_isBox, Cond.static yX3_isBox, Cond.initialized RX3, Cond.code yX3_isBox cX3_isBox 1 (some .boolean), Cond.methodLink RX3 69 yX3_in, Cond.static yX3_in, Cond.code yX3_in cX3_in 3 (some .boolean), Cond.methodLink RX3 110 yX3_isPerson, Cond.static yX3_isPerson, Cond.code yX3_isPerson cX3_isPerson 1 (some .boolean), Cond.methodLink RX3 113 yX3_right, Cond.instanceMethod yX3_right, Cond.selects RX3 yX3_right yX3_right, Cond.code yX3_right cX3_right 4 (some .int), Cond.fieldLink RX3 7 "BoxVaultModel" "dead" "[Z", Cond.fieldLink RX3 23 "BoxVaultModel" "holder" "[I", Cond.fieldLink RX3 32 "BoxVaultModel" "looked" "[Z", Cond.methodLink RX3 80 yX3_isRented, Cond.instanceMethod yX3_isRented, Cond.selects RX3 yX3_isRented yX3_isRented, Cond.code yX3_isRented cX3_isRented 2 (some .boolean), Cond.fieldLink RX3 20 "BoxVaultModel" "state" "[I", Cond.methodLink RX3 91 yX3_binds]
def wsX3_may_r2 : List Cond := [Cond.instanceMethod yX3_binds, Cond.selects RX3 yX3_binds yX3_binds, Cond.code yX3_binds cX3_binds 5 (some .int), Cond.fieldLink RX3 84 "BoxVaultModel" "orders" "I", Cond.fieldLink RX3 62 "BoxVaultModel" "holds" "[Z", Cond.fieldLink RX3 50 "BoxVaultModel" "at" "[I", Cond.fieldLink RX3 53 "BoxVaultModel" "court" "[I", Cond.methodLink RX3 94 yX3_isOrdered, Cond.instanceMethod yX3_isOrdered, Cond.selects RX3 yX3_isOrdered yX3_isOrdered, Cond.code yX3_isOrdered cX3_isOrdered 4 (some .boolean), Cond.fieldLink RX3 56 "BoxVaultModel" "kind" "[I", Cond.fieldLink RX3 59 "BoxVaultModel" "alone" "[I", Cond.methodLink RX3 87 yX3_isHeir, Cond.instanceMethod yX3_isHeir, Cond.selects RX3 yX3_isHeir yX3_isHeir, Cond.code yX3_isHeir cX3_isHeir 3 (some .boolean), Cond.fieldLink RX3 13 "BoxVaultModel" "heirs" "[I", Cond.methodLink RX3 97 yX3_noticesOf, Cond.instanceMethod yX3_noticesOf, Cond.selects RX3 yX3_noticesOf yX3_noticesOf, Cond.code yX3_noticesOf cX3_noticesOf 3 (some .int), Cond.methodLink RX3 76 yX3_overdue, Cond.instanceMethod yX3_overdue]
def wsX3_may_r3 : List Cond := [Cond.selects RX3 yX3_overdue yX3_overdue, Cond.code yX3_overdue cX3_overdue 2 (some .int), Cond.fieldLink RX3 73 "BoxVaultModel" "now" "I", Cond.fieldLink RX3 26 "BoxVaultModel" "paid" "[I", Cond.methodLink RX3 100 yX3_isProxy, Cond.instanceMethod yX3_isProxy, Cond.selects RX3 yX3_isProxy yX3_isProxy, Cond.code yX3_isProxy cX3_isProxy 5 (some .boolean), Cond.fieldLink RX3 38 "BoxVaultModel" "proxies" "[I", Cond.fieldLink RX3 41 "BoxVaultModel" "proxy" "[I", Cond.fieldLink RX3 44 "BoxVaultModel" "from" "[I", Cond.fieldLink RX3 47 "BoxVaultModel" "to" "[I", Cond.methodLink RX3 103 yX3_fails, Cond.instanceMethod yX3_fails, Cond.selects RX3 yX3_fails yX3_fails, Cond.code yX3_fails cX3_fails 2 (some .int)]
def wsX3_may : List Cond := .code yX3_may cX3_may 3 (some .int) :: ((wsX3_may_r1 ++ (wsX3_may_r2 ++ wsX3_may_r3)) ++ wsX30)
def wsX3_mayAll_r1 : List Cond := [Cond.fieldLink RX3 65 "BoxVaultModel" "thrown" "I", Cond.methodLink RX3 107 yX3_isBox, Cond.static yX3_isBox, Cond.initialized RX3, Cond.code yX3_isBox cX3_isBox 1 (some .boolean), Cond.methodLink RX3 69 yX3_in, Cond.static yX3_in, Cond.code yX3_in cX3_in 3 (some .boolean), Cond.methodLink RX3 103 yX3_fails, Cond.instanceMethod yX3_fails, Cond.selects RX3 yX3_fails yX3_fails, Cond.code yX3_fails cX3_fails 2 (some .int), Cond.methodLink RX3 113 yX3_right, Cond.instanceMethod yX3_right, Cond.selects RX3 yX3_right yX3_right, Cond.code yX3_right cX3_right 4 (some .int), Cond.fieldLink RX3 7 "BoxVaultModel" "dead" "[Z", Cond.fieldLink RX3 23 "BoxVaultModel" "holder" "[I", Cond.fieldLink RX3 32 "BoxVaultModel" "looked" "[Z", Cond.methodLink RX3 80 yX3_isRented, Cond.instanceMethod yX3_isRented, Cond.selects RX3 yX3_isRented yX3_isRented, Cond.code yX3_isRented cX3_isRented 2 (some .boolean), Cond.fieldLink RX3 20 "BoxVaultModel" "state" "[I"]
def wsX3_mayAll_r2 : List Cond := [Cond.methodLink RX3 91 yX3_binds, Cond.instanceMethod yX3_binds, Cond.selects RX3 yX3_binds yX3_binds, Cond.code yX3_binds cX3_binds 5 (some .int), Cond.fieldLink RX3 84 "BoxVaultModel" "orders" "I", Cond.fieldLink RX3 62 "BoxVaultModel" "holds" "[Z", Cond.fieldLink RX3 50 "BoxVaultModel" "at" "[I", Cond.fieldLink RX3 53 "BoxVaultModel" "court" "[I", Cond.methodLink RX3 94 yX3_isOrdered, Cond.instanceMethod yX3_isOrdered, Cond.selects RX3 yX3_isOrdered yX3_isOrdered, Cond.code yX3_isOrdered cX3_isOrdered 4 (some .boolean), Cond.fieldLink RX3 56 "BoxVaultModel" "kind" "[I", Cond.fieldLink RX3 59 "BoxVaultModel" "alone" "[I", Cond.methodLink RX3 87 yX3_isHeir, Cond.instanceMethod yX3_isHeir, Cond.selects RX3 yX3_isHeir yX3_isHeir, Cond.code yX3_isHeir cX3_isHeir 3 (some .boolean), Cond.fieldLink RX3 13 "BoxVaultModel" "heirs" "[I", Cond.methodLink RX3 97 yX3_noticesOf, Cond.instanceMethod yX3_noticesOf, Cond.selects RX3 yX3_noticesOf yX3_noticesOf, Cond.code yX3_noticesOf cX3_noticesOf 3 (some .int), Cond.methodLink RX3 76 yX3_overdue]
def wsX3_mayAll_r3 : List Cond := [Cond.instanceMethod yX3_overdue, Cond.selects RX3 yX3_overdue yX3_overdue, Cond.code yX3_overdue cX3_overdue 2 (some .int), Cond.fieldLink RX3 73 "BoxVaultModel" "now" "I", Cond.fieldLink RX3 26 "BoxVaultModel" "paid" "[I", Cond.methodLink RX3 100 yX3_isProxy, Cond.instanceMethod yX3_isProxy, Cond.selects RX3 yX3_isProxy yX3_isProxy, Cond.code yX3_isProxy cX3_isProxy 5 (some .boolean), Cond.fieldLink RX3 38 "BoxVaultModel" "proxies" "[I", Cond.fieldLink RX3 41 "BoxVaultModel" "proxy" "[I", Cond.fieldLink RX3 44 "BoxVaultModel" "from" "[I", Cond.fieldLink RX3 47 "BoxVaultModel" "to" "[I"]
def wsX3_mayAll : List Cond := .code yX3_mayAll cX3_mayAll 4 (some .int) :: ((wsX3_mayAll_r1 ++ (wsX3_mayAll_r2 ++ wsX3_mayAll_r3)) ++ wsX30)
def wsX3_holder : List Cond := .code yX3_holder cX3_holder 2 (some .int) :: ([.fieldLink RX3 65 "BoxVaultModel" "thrown" "I", .fieldLink RX3 20 "BoxVaultModel" "state" "[I", .fieldLink RX3 23 "BoxVaultModel" "holder" "[I", .methodLink RX3 107 yX3_isBox, .static yX3_isBox, .initialized RX3, .code yX3_isBox cX3_isBox 1 (some .boolean), .methodLink RX3 69 yX3_in, .static yX3_in, .code yX3_in cX3_in 3 (some .boolean), .methodLink RX3 103 yX3_fails, .instanceMethod yX3_fails, .selects RX3 yX3_fails yX3_fails, .code yX3_fails cX3_fails 2 (some .int)] ++ wsX30)
def wsX3_notices_r1 : List Cond := [Cond.fieldLink RX3 65 "BoxVaultModel" "thrown" "I", Cond.methodLink RX3 107 yX3_isBox, Cond.static yX3_isBox, Cond.initialized RX3, Cond.code yX3_isBox cX3_isBox 1 (some .boolean), Cond.methodLink RX3 69 yX3_in, Cond.static yX3_in, Cond.code yX3_in cX3_in 3 (some .boolean), Cond.methodLink RX3 97 yX3_noticesOf, Cond.instanceMethod yX3_noticesOf, Cond.selects RX3 yX3_noticesOf yX3_noticesOf, Cond.code yX3_noticesOf cX3_noticesOf 3 (some .int), Cond.methodLink RX3 76 yX3_overdue, Cond.instanceMethod yX3_overdue, Cond.selects RX3 yX3_overdue yX3_overdue, Cond.code yX3_overdue cX3_overdue 2 (some .int), Cond.fieldLink RX3 73 "BoxVaultModel" "now" "I", Cond.fieldLink RX3 26 "BoxVaultModel" "paid" "[I", Cond.methodLink RX3 80 yX3_isRented, Cond.instanceMethod yX3_isRented, Cond.selects RX3 yX3_isRented yX3_isRented, Cond.code yX3_isRented cX3_isRented 2 (some .boolean), Cond.fieldLink RX3 20 "BoxVaultModel" "state" "[I", Cond.methodLink RX3 103 yX3_fails]
def wsX3_notices_r2 : List Cond := [Cond.instanceMethod yX3_fails, Cond.selects RX3 yX3_fails yX3_fails, Cond.code yX3_fails cX3_fails 2 (some .int)]
def wsX3_notices : List Cond := .code yX3_notices cX3_notices 2 (some .int) :: ((wsX3_notices_r1 ++ wsX3_notices_r2) ++ wsX30)
def wsX3_refusals : List Cond := .code yX3_refusals cX3_refusals 2 (some .int) :: ([.fieldLink RX3 65 "BoxVaultModel" "thrown" "I", .fieldLink RX3 17 "BoxVaultModel" "refusals" "[I", .methodLink RX3 110 yX3_isPerson, .static yX3_isPerson, .initialized RX3, .code yX3_isPerson cX3_isPerson 1 (some .boolean), .methodLink RX3 69 yX3_in, .static yX3_in, .code yX3_in cX3_in 3 (some .boolean), .methodLink RX3 103 yX3_fails, .instanceMethod yX3_fails, .selects RX3 yX3_fails yX3_fails, .code yX3_fails cX3_fails 2 (some .int)] ++ wsX30)
def wsX3_binding : List Cond := .code yX3_binding cX3_binding 2 (some .int) :: ([.fieldLink RX3 65 "BoxVaultModel" "thrown" "I", .methodLink RX3 107 yX3_isBox, .static yX3_isBox, .initialized RX3, .code yX3_isBox cX3_isBox 1 (some .boolean), .methodLink RX3 69 yX3_in, .static yX3_in, .code yX3_in cX3_in 3 (some .boolean), .methodLink RX3 91 yX3_binds, .instanceMethod yX3_binds, .selects RX3 yX3_binds yX3_binds, .code yX3_binds cX3_binds 5 (some .int), .fieldLink RX3 84 "BoxVaultModel" "orders" "I", .fieldLink RX3 62 "BoxVaultModel" "holds" "[Z", .fieldLink RX3 50 "BoxVaultModel" "at" "[I", .fieldLink RX3 53 "BoxVaultModel" "court" "[I", .methodLink RX3 103 yX3_fails, .instanceMethod yX3_fails, .selects RX3 yX3_fails yX3_fails, .code yX3_fails cX3_fails 2 (some .int)] ++ wsX30)
def wsJ9_max_7cf53 : List Cond := .code yJ9_max_7cf53 cJ9_max_7cf53 2 (some .int) :: ([])
def wsJ9_min_7cf53 : List Cond := .code yJ9_min_7cf53 cJ9_min_7cf53 2 (some .int) :: ([])
def wsL_pass : List Cond := .codeWith yL_pass cL_pass 4 (some .int) [(0, 9, 12, 13), (0, 9, 15, 15)] :: ([.classLink RL 13 "java/lang/IllegalArgumentException", .classLink RL 15 "java/lang/IllegalStateException", .methodLink RL 7 yX2_pass, .instanceMethod yX2_pass, .selects RX2 yX2_pass yX2_pass, .initialized RX2, .code yX2_pass cX2_pass 2 (some .int), .classLink RX2 43 "java/lang/IllegalStateException", .initialized "java/lang/IllegalStateException", .constant RX2 42 (99999), .fieldLink RX2 33 "BoxVault" "today" "I", .methodLink RX2 38 yX2_requireRange, .static yX2_requireRange, .code yX2_requireRange cX2_requireRange 3 none, .classLink RX2 94 "java/lang/IllegalArgumentException", .initialized "java/lang/IllegalArgumentException"] ++ wsX20 ++ (vx_atS RX2 47 "java/lang/IllegalStateException" ["java/lang/RuntimeException", "java/lang/Exception"]).filter goodWord ++ (vx_atS RX2 98 "java/lang/IllegalArgumentException" ["java/lang/RuntimeException", "java/lang/Exception"]).filter goodWord)
def wsL_rent_r1 : List Cond := [Cond.classLink RL 13 "java/lang/IllegalArgumentException", Cond.classLink RL 15 "java/lang/IllegalStateException", Cond.methodLink RL 17 yX2_rent, Cond.instanceMethod yX2_rent, Cond.selects RX2 yX2_rent yX2_rent, Cond.initialized RX2, Cond.code yX2_rent cX2_rent 5 (some .int), Cond.classLink RX2 43 "java/lang/IllegalStateException", Cond.initialized "java/lang/IllegalStateException", Cond.fieldLink RX2 33 "BoxVault" "today" "I", Cond.methodLink RX2 50 yX2_boxAt, Cond.instanceMethod yX2_boxAt, Cond.selects RX2 yX2_boxAt yX2_boxAt, Cond.code yX2_boxAt cX2_boxAt 2 (some (.object "BoxVault$Box")), Cond.fieldLink RX2 11 "BoxVault" "boxes" "[LBoxVault$Box;", Cond.methodLink RX2 38 yX2_requireRange, Cond.static yX2_requireRange, Cond.code yX2_requireRange cX2_requireRange 3 none, Cond.classLink RX2 94 "java/lang/IllegalArgumentException", Cond.initialized "java/lang/IllegalArgumentException", Cond.methodLink RX2 54 yX2_requirePerson, Cond.static yX2_requirePerson, Cond.code yX2_requirePerson cX2_requirePerson 1 none, Cond.instanceMethod yX0_isFree]
def wsL_rent_r2 : List Cond := [Cond.initialized RX0, Cond.selects RX0 yX0_isFree yX0_isFree, Cond.code yX0_isFree cX0_isFree 1 (some .boolean), Cond.fieldLink RX0 11 "BoxVault$Box" "state" "I", Cond.methodLink RX2 64 yX2_isAlive, Cond.instanceMethod yX2_isAlive, Cond.selects RX2 yX2_isAlive yX2_isAlive, Cond.code yX2_isAlive cX2_isAlive 2 (some .boolean), Cond.fieldLink RX2 22 "BoxVault" "dead" "[Z", Cond.methodLink RX2 201 yX2_isPerson, Cond.static yX2_isPerson, Cond.code yX2_isPerson cX2_isPerson 1 (some .boolean), Cond.instanceMethod yX0_startRent, Cond.selects RX0 yX0_startRent yX0_startRent, Cond.code yX0_startRent cX0_startRent 3 none, Cond.fieldLink RX0 15 "BoxVault$Box" "holder" "I", Cond.fieldLink RX0 18 "BoxVault$Box" "paidUpTo" "I", Cond.fieldLink RX0 24 "BoxVault$Box" "entries" "I", Cond.fieldLink RX0 27 "BoxVault$Box" "willSought" "Z"]
def wsL_rent : List Cond := .codeWith yL_rent cL_rent 6 (some .int) [(0, 12, 15, 13), (0, 12, 19, 15)] :: ((wsL_rent_r1 ++ wsL_rent_r2) ++ wsX20 ++ wsX00 ++ (vx_atS RX2 47 "java/lang/IllegalStateException" ["java/lang/RuntimeException", "java/lang/Exception"]).filter goodWord ++ (vx_atS RX2 98 "java/lang/IllegalArgumentException" ["java/lang/RuntimeException", "java/lang/Exception"]).filter goodWord)
def wsL_extend_r1 : List Cond := [Cond.classLink RL 13 "java/lang/IllegalArgumentException", Cond.classLink RL 15 "java/lang/IllegalStateException", Cond.methodLink RL 21 yX2_extend, Cond.instanceMethod yX2_extend, Cond.selects RX2 yX2_extend yX2_extend, Cond.initialized RX2, Cond.code yX2_extend cX2_extend 4 (some .int), Cond.methodLink RX2 50 yX2_boxAt, Cond.instanceMethod yX2_boxAt, Cond.selects RX2 yX2_boxAt yX2_boxAt, Cond.code yX2_boxAt cX2_boxAt 2 (some (.object "BoxVault$Box")), Cond.fieldLink RX2 11 "BoxVault" "boxes" "[LBoxVault$Box;", Cond.methodLink RX2 38 yX2_requireRange, Cond.static yX2_requireRange, Cond.code yX2_requireRange cX2_requireRange 3 none, Cond.classLink RX2 94 "java/lang/IllegalArgumentException", Cond.initialized "java/lang/IllegalArgumentException", Cond.methodLink RX2 77 yX2_requireRented, Cond.static yX2_requireRented, Cond.code yX2_requireRented cX2_requireRented 1 none, Cond.classLink RX2 43 "java/lang/IllegalStateException", Cond.initialized "java/lang/IllegalStateException", Cond.instanceMethod yX0_isRented, Cond.initialized RX0]
def wsL_extend_r2 : List Cond := [Cond.selects RX0 yX0_isRented yX0_isRented, Cond.code yX0_isRented cX0_isRented 1 (some .boolean), Cond.fieldLink RX0 11 "BoxVault$Box" "state" "I"]
def wsL_extend : List Cond := .codeWith yL_extend cL_extend 5 (some .int) [(0, 10, 13, 13), (0, 10, 17, 15)] :: ((wsL_extend_r1 ++ wsL_extend_r2) ++ wsX00 ++ wsX20 ++ (vx_atS RX2 98 "java/lang/IllegalArgumentException" ["java/lang/RuntimeException", "java/lang/Exception"]).filter goodWord ++ (vx_atS RX2 47 "java/lang/IllegalStateException" ["java/lang/RuntimeException", "java/lang/Exception"]).filter goodWord)
def wsL_giveBack_r1 : List Cond := [Cond.classLink RL 13 "java/lang/IllegalArgumentException", Cond.classLink RL 15 "java/lang/IllegalStateException", Cond.methodLink RL 25 yX2_giveBack, Cond.instanceMethod yX2_giveBack, Cond.selects RX2 yX2_giveBack yX2_giveBack, Cond.initialized RX2, Cond.code yX2_giveBack cX2_giveBack 5 (some .int), Cond.classLink RX2 43 "java/lang/IllegalStateException", Cond.initialized "java/lang/IllegalStateException", Cond.methodLink RX2 50 yX2_boxAt, Cond.instanceMethod yX2_boxAt, Cond.selects RX2 yX2_boxAt yX2_boxAt, Cond.code yX2_boxAt cX2_boxAt 2 (some (.object "BoxVault$Box")), Cond.fieldLink RX2 11 "BoxVault" "boxes" "[LBoxVault$Box;", Cond.methodLink RX2 38 yX2_requireRange, Cond.static yX2_requireRange, Cond.code yX2_requireRange cX2_requireRange 3 none, Cond.classLink RX2 94 "java/lang/IllegalArgumentException", Cond.initialized "java/lang/IllegalArgumentException", Cond.methodLink RX2 54 yX2_requirePerson, Cond.static yX2_requirePerson, Cond.code yX2_requirePerson cX2_requirePerson 1 none, Cond.methodLink RX2 77 yX2_requireRented, Cond.static yX2_requireRented]
def wsL_giveBack_r2 : List Cond := [Cond.code yX2_requireRented cX2_requireRented 1 none, Cond.instanceMethod yX0_isRented, Cond.initialized RX0, Cond.selects RX0 yX0_isRented yX0_isRented, Cond.code yX0_isRented cX0_isRented 1 (some .boolean), Cond.fieldLink RX0 11 "BoxVault$Box" "state" "I", Cond.methodLink RX2 81 yX2_rightOf, Cond.instanceMethod yX2_rightOf, Cond.selects RX2 yX2_rightOf yX2_rightOf, Cond.code yX2_rightOf cX2_rightOf 5 (some .int), Cond.fieldLink RX2 18 "BoxVault" "orders" "LBoxVault$OrderBook;", Cond.methodLink RX2 64 yX2_isAlive, Cond.instanceMethod yX2_isAlive, Cond.selects RX2 yX2_isAlive yX2_isAlive, Cond.code yX2_isAlive cX2_isAlive 2 (some .boolean), Cond.fieldLink RX2 22 "BoxVault" "dead" "[Z", Cond.methodLink RX2 201 yX2_isPerson, Cond.static yX2_isPerson, Cond.code yX2_isPerson cX2_isPerson 1 (some .boolean), Cond.instanceMethod yX1_bindingOn, Cond.initialized RX1, Cond.selects RX1 yX1_bindingOn yX1_bindingOn, Cond.code yX1_bindingOn cX1_bindingOn 4 (some .int), Cond.fieldLink RX1 9 "BoxVault$OrderBook" "count" "I"]
def wsL_giveBack_r3 : List Cond := [Cond.fieldLink RX1 28 "BoxVault$OrderBook" "holds" "[Z", Cond.fieldLink RX1 15 "BoxVault$OrderBook" "box" "[I", Cond.fieldLink RX1 19 "BoxVault$OrderBook" "court" "[I", Cond.methodLink RX2 204 yX2_orderAllows, Cond.instanceMethod yX2_orderAllows, Cond.selects RX2 yX2_orderAllows yX2_orderAllows, Cond.code yX2_orderAllows cX2_orderAllows 4 (some .boolean), Cond.instanceMethod yX1_kindOf, Cond.selects RX1 yX1_kindOf yX1_kindOf, Cond.code yX1_kindOf cX1_kindOf 2 (some .int), Cond.fieldLink RX1 22 "BoxVault$OrderBook" "kind" "[I", Cond.methodLink RX1 32 yX1_has, Cond.instanceMethod yX1_has, Cond.selects RX1 yX1_has yX1_has, Cond.code yX1_has cX1_has 2 (some .boolean), Cond.instanceMethod yX1_personOf, Cond.selects RX1 yX1_personOf yX1_personOf, Cond.code yX1_personOf cX1_personOf 2 (some .int), Cond.fieldLink RX1 25 "BoxVault$OrderBook" "person" "[I", Cond.methodLink RX2 213 yX2_isHeirOfDead, Cond.instanceMethod yX2_isHeirOfDead, Cond.selects RX2 yX2_isHeirOfDead yX2_isHeirOfDead, Cond.code yX2_isHeirOfDead cX2_isHeirOfDead 3 (some .boolean), Cond.methodLink RX2 153 yX2_isHeir]
def wsL_giveBack_r4 : List Cond := [Cond.instanceMethod yX2_isHeir, Cond.selects RX2 yX2_isHeir yX2_isHeir, Cond.code yX2_isHeir cX2_isHeir 3 (some .boolean), Cond.fieldLink RX2 26 "BoxVault" "heirs" "[I", Cond.methodLink RX2 207 yX2_holderAllows, Cond.instanceMethod yX2_holderAllows, Cond.selects RX2 yX2_holderAllows yX2_holderAllows, Cond.code yX2_holderAllows cX2_holderAllows 3 (some .boolean), Cond.fieldLink RX2 33 "BoxVault" "today" "I", Cond.instanceMethod yX0_noticesOn, Cond.selects RX0 yX0_noticesOn yX0_noticesOn, Cond.code yX0_noticesOn cX0_noticesOn 2 (some .int), Cond.methodLink RX0 57 Lib.Math.min.name, Cond.static Lib.Math.min.name, Cond.initialized "java/lang/Math", Cond.code Lib.Math.min.name Lib.Math.min.code 2 (some .int), Cond.methodLink RX0 44 yX0_overdueOn, Cond.instanceMethod yX0_overdueOn, Cond.selects RX0 yX0_overdueOn yX0_overdueOn, Cond.code yX0_overdueOn cX0_overdueOn 2 (some .int), Cond.fieldLink RX0 18 "BoxVault$Box" "paidUpTo" "I", Cond.methodLink RX0 51 Lib.Math.max.name, Cond.static Lib.Math.max.name, Cond.code Lib.Math.max.name Lib.Math.max.code 2 (some .int)]
def wsL_giveBack_r5 : List Cond := [Cond.instanceMethod yX0_hasProxyOn, Cond.selects RX0 yX0_hasProxyOn yX0_hasProxyOn, Cond.code yX0_hasProxyOn cX0_hasProxyOn 4 (some .boolean), Cond.fieldLink RX0 31 "BoxVault$Box" "proxyCount" "I", Cond.fieldLink RX0 34 "BoxVault$Box" "proxyPerson" "[I", Cond.fieldLink RX0 38 "BoxVault$Box" "proxyFirst" "[I", Cond.fieldLink RX0 41 "BoxVault$Box" "proxyLast" "[I", Cond.methodLink RX2 90 yX2_makeFree, Cond.instanceMethod yX2_makeFree, Cond.selects RX2 yX2_makeFree yX2_makeFree, Cond.code yX2_makeFree cX2_makeFree 3 none, Cond.instanceMethod yX0_empty, Cond.selects RX0 yX0_empty yX0_empty, Cond.code yX0_empty cX0_empty 1 none, Cond.fieldLink RX0 15 "BoxVault$Box" "holder" "I", Cond.methodLink RX0 48 yX0_endProxies, Cond.instanceMethod yX0_endProxies, Cond.selects RX0 yX0_endProxies yX0_endProxies, Cond.code yX0_endProxies cX0_endProxies 1 none, Cond.instanceMethod yX1_endAllOn, Cond.selects RX1 yX1_endAllOn yX1_endAllOn, Cond.code yX1_endAllOn cX1_endAllOn 3 none]
def wsL_giveBack : List Cond := .codeWith yL_giveBack cL_giveBack 5 (some .int) [(0, 10, 13, 13), (0, 10, 17, 15)] :: ((wsL_giveBack_r1 ++ (wsL_giveBack_r2 ++ (wsL_giveBack_r3 ++ (wsL_giveBack_r4 ++ wsL_giveBack_r5)))) ++ wsX00 ++ wsX20 ++ wsX10 ++ (vx_atS RX2 47 "java/lang/IllegalStateException" ["java/lang/RuntimeException", "java/lang/Exception"]).filter goodWord ++ (vx_atS RX2 98 "java/lang/IllegalArgumentException" ["java/lang/RuntimeException", "java/lang/Exception"]).filter goodWord)
def wsL_drill_r1 : List Cond := [Cond.classLink RL 13 "java/lang/IllegalArgumentException", Cond.classLink RL 15 "java/lang/IllegalStateException", Cond.methodLink RL 28 yX2_drill, Cond.instanceMethod yX2_drill, Cond.selects RX2 yX2_drill yX2_drill, Cond.initialized RX2, Cond.code yX2_drill cX2_drill 5 (some .int), Cond.classLink RX2 94 "java/lang/IllegalArgumentException", Cond.initialized "java/lang/IllegalArgumentException", Cond.classLink RX2 43 "java/lang/IllegalStateException", Cond.initialized "java/lang/IllegalStateException", Cond.fieldLink RX2 33 "BoxVault" "today" "I", Cond.fieldLink RX2 18 "BoxVault" "orders" "LBoxVault$OrderBook;", Cond.methodLink RX2 50 yX2_boxAt, Cond.instanceMethod yX2_boxAt, Cond.selects RX2 yX2_boxAt yX2_boxAt, Cond.code yX2_boxAt cX2_boxAt 2 (some (.object "BoxVault$Box")), Cond.fieldLink RX2 11 "BoxVault" "boxes" "[LBoxVault$Box;", Cond.methodLink RX2 38 yX2_requireRange, Cond.static yX2_requireRange, Cond.code yX2_requireRange cX2_requireRange 3 none, Cond.methodLink RX2 54 yX2_requirePerson, Cond.static yX2_requirePerson, Cond.code yX2_requirePerson cX2_requirePerson 1 none]
def wsL_drill_r2 : List Cond := [Cond.methodLink RX2 77 yX2_requireRented, Cond.static yX2_requireRented, Cond.code yX2_requireRented cX2_requireRented 1 none, Cond.instanceMethod yX0_isRented, Cond.initialized RX0, Cond.selects RX0 yX0_isRented yX0_isRented, Cond.code yX0_isRented cX0_isRented 1 (some .boolean), Cond.fieldLink RX0 11 "BoxVault$Box" "state" "I", Cond.instanceMethod yX0_noticesOn, Cond.selects RX0 yX0_noticesOn yX0_noticesOn, Cond.code yX0_noticesOn cX0_noticesOn 2 (some .int), Cond.methodLink RX0 57 Lib.Math.min.name, Cond.static Lib.Math.min.name, Cond.initialized "java/lang/Math", Cond.code Lib.Math.min.name Lib.Math.min.code 2 (some .int), Cond.methodLink RX0 44 yX0_overdueOn, Cond.instanceMethod yX0_overdueOn, Cond.selects RX0 yX0_overdueOn yX0_overdueOn, Cond.code yX0_overdueOn cX0_overdueOn 2 (some .int), Cond.fieldLink RX0 18 "BoxVault$Box" "paidUpTo" "I", Cond.methodLink RX0 51 Lib.Math.max.name, Cond.static Lib.Math.max.name, Cond.code Lib.Math.max.name Lib.Math.max.code 2 (some .int), Cond.methodLink RX2 105 yX2_canWitness]
def wsL_drill_r3 : List Cond := [Cond.instanceMethod yX2_canWitness, Cond.selects RX2 yX2_canWitness yX2_canWitness, Cond.code yX2_canWitness cX2_canWitness 3 (some .boolean), Cond.methodLink RX2 64 yX2_isAlive, Cond.instanceMethod yX2_isAlive, Cond.selects RX2 yX2_isAlive yX2_isAlive, Cond.code yX2_isAlive cX2_isAlive 2 (some .boolean), Cond.fieldLink RX2 22 "BoxVault" "dead" "[Z", Cond.methodLink RX2 201 yX2_isPerson, Cond.static yX2_isPerson, Cond.code yX2_isPerson cX2_isPerson 1 (some .boolean), Cond.instanceMethod yX1_bindingOn, Cond.initialized RX1, Cond.selects RX1 yX1_bindingOn yX1_bindingOn, Cond.code yX1_bindingOn cX1_bindingOn 4 (some .int), Cond.fieldLink RX1 9 "BoxVault$OrderBook" "count" "I", Cond.fieldLink RX1 28 "BoxVault$OrderBook" "holds" "[Z", Cond.fieldLink RX1 15 "BoxVault$OrderBook" "box" "[I", Cond.fieldLink RX1 19 "BoxVault$OrderBook" "court" "[I", Cond.instanceMethod yX1_kindOf, Cond.selects RX1 yX1_kindOf yX1_kindOf, Cond.code yX1_kindOf cX1_kindOf 2 (some .int), Cond.fieldLink RX1 22 "BoxVault$OrderBook" "kind" "[I", Cond.methodLink RX1 32 yX1_has]
def wsL_drill_r4 : List Cond := [Cond.instanceMethod yX1_has, Cond.selects RX1 yX1_has yX1_has, Cond.code yX1_has cX1_has 2 (some .boolean), Cond.instanceMethod yX0_breakOpen, Cond.selects RX0 yX0_breakOpen yX0_breakOpen, Cond.code yX0_breakOpen cX0_breakOpen 2 none, Cond.fieldLink RX0 21 "BoxVault$Box" "unpaidDays" "I"]
def wsL_drill : List Cond := .codeWith yL_drill cL_drill 6 (some .int) [(0, 12, 15, 13), (0, 12, 19, 15)] :: ((wsL_drill_r1 ++ (wsL_drill_r2 ++ (wsL_drill_r3 ++ wsL_drill_r4))) ++ wsX20 ++ wsX00 ++ wsX10 ++ (vx_atS RX2 98 "java/lang/IllegalArgumentException" ["java/lang/RuntimeException", "java/lang/Exception"]).filter goodWord ++ (vx_atS RX2 47 "java/lang/IllegalStateException" ["java/lang/RuntimeException", "java/lang/Exception"]).filter goodWord)
def wsL_fetch_r1 : List Cond := [Cond.classLink RL 13 "java/lang/IllegalArgumentException", Cond.classLink RL 15 "java/lang/IllegalStateException", Cond.methodLink RL 31 yX2_fetch, Cond.instanceMethod yX2_fetch, Cond.selects RX2 yX2_fetch yX2_fetch, Cond.initialized RX2, Cond.code yX2_fetch cX2_fetch 5 (some .int), Cond.classLink RX2 43 "java/lang/IllegalStateException", Cond.initialized "java/lang/IllegalStateException", Cond.methodLink RX2 50 yX2_boxAt, Cond.instanceMethod yX2_boxAt, Cond.selects RX2 yX2_boxAt yX2_boxAt, Cond.code yX2_boxAt cX2_boxAt 2 (some (.object "BoxVault$Box")), Cond.fieldLink RX2 11 "BoxVault" "boxes" "[LBoxVault$Box;", Cond.methodLink RX2 38 yX2_requireRange, Cond.static yX2_requireRange, Cond.code yX2_requireRange cX2_requireRange 3 none, Cond.classLink RX2 94 "java/lang/IllegalArgumentException", Cond.initialized "java/lang/IllegalArgumentException", Cond.methodLink RX2 54 yX2_requirePerson, Cond.static yX2_requirePerson, Cond.code yX2_requirePerson cX2_requirePerson 1 none, Cond.methodLink RX2 130 yX2_mayFetch, Cond.instanceMethod yX2_mayFetch]
def wsL_fetch_r2 : List Cond := [Cond.selects RX2 yX2_mayFetch yX2_mayFetch, Cond.code yX2_mayFetch cX2_mayFetch 5 (some .boolean), Cond.fieldLink RX2 18 "BoxVault" "orders" "LBoxVault$OrderBook;", Cond.methodLink RX2 64 yX2_isAlive, Cond.instanceMethod yX2_isAlive, Cond.selects RX2 yX2_isAlive yX2_isAlive, Cond.code yX2_isAlive cX2_isAlive 2 (some .boolean), Cond.fieldLink RX2 22 "BoxVault" "dead" "[Z", Cond.methodLink RX2 201 yX2_isPerson, Cond.static yX2_isPerson, Cond.code yX2_isPerson cX2_isPerson 1 (some .boolean), Cond.instanceMethod yX1_bindingOn, Cond.initialized RX1, Cond.selects RX1 yX1_bindingOn yX1_bindingOn, Cond.code yX1_bindingOn cX1_bindingOn 4 (some .int), Cond.fieldLink RX1 9 "BoxVault$OrderBook" "count" "I", Cond.fieldLink RX1 28 "BoxVault$OrderBook" "holds" "[Z", Cond.fieldLink RX1 15 "BoxVault$OrderBook" "box" "[I", Cond.fieldLink RX1 19 "BoxVault$OrderBook" "court" "[I", Cond.methodLink RX2 204 yX2_orderAllows, Cond.instanceMethod yX2_orderAllows, Cond.selects RX2 yX2_orderAllows yX2_orderAllows, Cond.code yX2_orderAllows cX2_orderAllows 4 (some .boolean), Cond.instanceMethod yX1_kindOf]
def wsL_fetch_r3 : List Cond := [Cond.selects RX1 yX1_kindOf yX1_kindOf, Cond.code yX1_kindOf cX1_kindOf 2 (some .int), Cond.fieldLink RX1 22 "BoxVault$OrderBook" "kind" "[I", Cond.methodLink RX1 32 yX1_has, Cond.instanceMethod yX1_has, Cond.selects RX1 yX1_has yX1_has, Cond.code yX1_has cX1_has 2 (some .boolean), Cond.instanceMethod yX1_personOf, Cond.selects RX1 yX1_personOf yX1_personOf, Cond.code yX1_personOf cX1_personOf 2 (some .int), Cond.fieldLink RX1 25 "BoxVault$OrderBook" "person" "[I", Cond.methodLink RX2 213 yX2_isHeirOfDead, Cond.instanceMethod yX2_isHeirOfDead, Cond.selects RX2 yX2_isHeirOfDead yX2_isHeirOfDead, Cond.code yX2_isHeirOfDead cX2_isHeirOfDead 3 (some .boolean), Cond.methodLink RX2 153 yX2_isHeir, Cond.instanceMethod yX2_isHeir, Cond.selects RX2 yX2_isHeir yX2_isHeir, Cond.code yX2_isHeir cX2_isHeir 3 (some .boolean), Cond.fieldLink RX2 26 "BoxVault" "heirs" "[I", Cond.methodLink RX2 90 yX2_makeFree, Cond.instanceMethod yX2_makeFree, Cond.selects RX2 yX2_makeFree yX2_makeFree, Cond.code yX2_makeFree cX2_makeFree 3 none]
def wsL_fetch_r4 : List Cond := [Cond.instanceMethod yX0_empty, Cond.initialized RX0, Cond.selects RX0 yX0_empty yX0_empty, Cond.code yX0_empty cX0_empty 1 none, Cond.fieldLink RX0 11 "BoxVault$Box" "state" "I", Cond.fieldLink RX0 15 "BoxVault$Box" "holder" "I", Cond.methodLink RX0 48 yX0_endProxies, Cond.instanceMethod yX0_endProxies, Cond.selects RX0 yX0_endProxies yX0_endProxies, Cond.code yX0_endProxies cX0_endProxies 1 none, Cond.fieldLink RX0 31 "BoxVault$Box" "proxyCount" "I", Cond.instanceMethod yX1_endAllOn, Cond.selects RX1 yX1_endAllOn yX1_endAllOn, Cond.code yX1_endAllOn cX1_endAllOn 3 none]
def wsL_fetch : List Cond := .codeWith yL_fetch cL_fetch 5 (some .int) [(0, 10, 13, 13), (0, 10, 17, 15)] :: ((wsL_fetch_r1 ++ (wsL_fetch_r2 ++ (wsL_fetch_r3 ++ wsL_fetch_r4))) ++ wsX00 ++ wsX20 ++ wsX10 ++ (vx_atS RX2 47 "java/lang/IllegalStateException" ["java/lang/RuntimeException", "java/lang/Exception"]).filter goodWord ++ (vx_atS RX2 98 "java/lang/IllegalArgumentException" ["java/lang/RuntimeException", "java/lang/Exception"]).filter goodWord)
def wsL_proxy_r1 : List Cond := [Cond.classLink RL 13 "java/lang/IllegalArgumentException", Cond.classLink RL 15 "java/lang/IllegalStateException", Cond.methodLink RL 34 yX2_proxy, Cond.instanceMethod yX2_proxy, Cond.selects RX2 yX2_proxy yX2_proxy, Cond.initialized RX2, Cond.code yX2_proxy cX2_proxy 6 (some .int), Cond.classLink RX2 43 "java/lang/IllegalStateException", Cond.initialized "java/lang/IllegalStateException", Cond.constant RX2 42 (99999), Cond.methodLink RX2 50 yX2_boxAt, Cond.instanceMethod yX2_boxAt, Cond.selects RX2 yX2_boxAt yX2_boxAt, Cond.code yX2_boxAt cX2_boxAt 2 (some (.object "BoxVault$Box")), Cond.fieldLink RX2 11 "BoxVault" "boxes" "[LBoxVault$Box;", Cond.methodLink RX2 38 yX2_requireRange, Cond.static yX2_requireRange, Cond.code yX2_requireRange cX2_requireRange 3 none, Cond.classLink RX2 94 "java/lang/IllegalArgumentException", Cond.initialized "java/lang/IllegalArgumentException", Cond.methodLink RX2 54 yX2_requirePerson, Cond.static yX2_requirePerson, Cond.code yX2_requirePerson cX2_requirePerson 1 none, Cond.methodLink RX2 77 yX2_requireRented]
def wsL_proxy_r2 : List Cond := [Cond.static yX2_requireRented, Cond.code yX2_requireRented cX2_requireRented 1 none, Cond.instanceMethod yX0_isRented, Cond.initialized RX0, Cond.selects RX0 yX0_isRented yX0_isRented, Cond.code yX0_isRented cX0_isRented 1 (some .boolean), Cond.fieldLink RX0 11 "BoxVault$Box" "state" "I", Cond.methodLink RX2 64 yX2_isAlive, Cond.instanceMethod yX2_isAlive, Cond.selects RX2 yX2_isAlive yX2_isAlive, Cond.code yX2_isAlive cX2_isAlive 2 (some .boolean), Cond.fieldLink RX2 22 "BoxVault" "dead" "[Z", Cond.methodLink RX2 201 yX2_isPerson, Cond.static yX2_isPerson, Cond.code yX2_isPerson cX2_isPerson 1 (some .boolean), Cond.instanceMethod yX0_addProxy, Cond.selects RX0 yX0_addProxy yX0_addProxy, Cond.code yX0_addProxy cX0_addProxy 4 none, Cond.fieldLink RX0 31 "BoxVault$Box" "proxyCount" "I", Cond.fieldLink RX0 34 "BoxVault$Box" "proxyPerson" "[I", Cond.fieldLink RX0 38 "BoxVault$Box" "proxyFirst" "[I", Cond.fieldLink RX0 41 "BoxVault$Box" "proxyLast" "[I"]
def wsL_proxy : List Cond := .codeWith yL_proxy cL_proxy 7 (some .int) [(0, 14, 17, 13), (0, 14, 21, 15)] :: ((wsL_proxy_r1 ++ wsL_proxy_r2) ++ wsX00 ++ wsX20 ++ (vx_atS RX2 47 "java/lang/IllegalStateException" ["java/lang/RuntimeException", "java/lang/Exception"]).filter goodWord ++ (vx_atS RX2 98 "java/lang/IllegalArgumentException" ["java/lang/RuntimeException", "java/lang/Exception"]).filter goodWord)
def wsL_heir : List Cond := .codeWith yL_heir cL_heir 6 (some .int) [(0, 19, 22, 13)] :: ([.classLink RL 13 "java/lang/IllegalArgumentException", .methodLink RL 38 yX2_heir, .instanceMethod yX2_heir, .selects RX2 yX2_heir yX2_heir, .initialized RX2, .code yX2_heir cX2_heir 6 (some .boolean), .classLink RX2 94 "java/lang/IllegalArgumentException", .initialized "java/lang/IllegalArgumentException", .fieldLink RX2 26 "BoxVault" "heirs" "[I", .methodLink RX2 54 yX2_requirePerson, .static yX2_requirePerson, .code yX2_requirePerson cX2_requirePerson 1 none, .methodLink RX2 38 yX2_requireRange, .static yX2_requireRange, .code yX2_requireRange cX2_requireRange 3 none, .methodLink RX2 153 yX2_isHeir, .instanceMethod yX2_isHeir, .selects RX2 yX2_isHeir yX2_isHeir, .code yX2_isHeir cX2_isHeir 3 (some .boolean), .methodLink RX2 201 yX2_isPerson, .static yX2_isPerson, .code yX2_isPerson cX2_isPerson 1 (some .boolean)] ++ wsX20 ++ (vx_atS RX2 98 "java/lang/IllegalArgumentException" ["java/lang/RuntimeException", "java/lang/Exception"]).filter goodWord)
def wsL_die_r1 : List Cond := [Cond.classLink RL 13 "java/lang/IllegalArgumentException", Cond.classLink RL 15 "java/lang/IllegalStateException", Cond.methodLink RL 42 yX2_die, Cond.instanceMethod yX2_die, Cond.selects RX2 yX2_die yX2_die, Cond.initialized RX2, Cond.code yX2_die cX2_die 4 (some .int), Cond.classLink RX2 43 "java/lang/IllegalStateException", Cond.initialized "java/lang/IllegalStateException", Cond.fieldLink RX2 22 "BoxVault" "dead" "[Z", Cond.fieldLink RX2 11 "BoxVault" "boxes" "[LBoxVault$Box;", Cond.methodLink RX2 54 yX2_requirePerson, Cond.static yX2_requirePerson, Cond.code yX2_requirePerson cX2_requirePerson 1 none, Cond.methodLink RX2 38 yX2_requireRange, Cond.static yX2_requireRange, Cond.code yX2_requireRange cX2_requireRange 3 none, Cond.classLink RX2 94 "java/lang/IllegalArgumentException", Cond.initialized "java/lang/IllegalArgumentException", Cond.instanceMethod yX0_endProxies, Cond.initialized RX0, Cond.selects RX0 yX0_endProxies yX0_endProxies, Cond.code yX0_endProxies cX0_endProxies 1 none, Cond.fieldLink RX0 31 "BoxVault$Box" "proxyCount" "I"]
def wsL_die_r2 : List Cond := [Cond.instanceMethod yX0_isRented, Cond.selects RX0 yX0_isRented yX0_isRented, Cond.code yX0_isRented cX0_isRented 1 (some .boolean), Cond.fieldLink RX0 11 "BoxVault$Box" "state" "I"]
def wsL_die : List Cond := .codeWith yL_die cL_die 4 (some .int) [(0, 9, 12, 13), (0, 9, 15, 15)] :: ((wsL_die_r1 ++ wsL_die_r2) ++ wsX20 ++ wsX00 ++ (vx_atS RX2 47 "java/lang/IllegalStateException" ["java/lang/RuntimeException", "java/lang/Exception"]).filter goodWord ++ (vx_atS RX2 98 "java/lang/IllegalArgumentException" ["java/lang/RuntimeException", "java/lang/Exception"]).filter goodWord)
def wsL_order_r1 : List Cond := [Cond.classLink RL 13 "java/lang/IllegalArgumentException", Cond.classLink RL 15 "java/lang/IllegalStateException", Cond.methodLink RL 45 yX2_order, Cond.instanceMethod yX2_order, Cond.selects RX2 yX2_order yX2_order, Cond.initialized RX2, Cond.code yX2_order cX2_order 6 (some .int), Cond.classLink RX2 43 "java/lang/IllegalStateException", Cond.initialized "java/lang/IllegalStateException", Cond.fieldLink RX2 18 "BoxVault" "orders" "LBoxVault$OrderBook;", Cond.methodLink RX2 50 yX2_boxAt, Cond.instanceMethod yX2_boxAt, Cond.selects RX2 yX2_boxAt yX2_boxAt, Cond.code yX2_boxAt cX2_boxAt 2 (some (.object "BoxVault$Box")), Cond.fieldLink RX2 11 "BoxVault" "boxes" "[LBoxVault$Box;", Cond.methodLink RX2 38 yX2_requireRange, Cond.static yX2_requireRange, Cond.code yX2_requireRange cX2_requireRange 3 none, Cond.classLink RX2 94 "java/lang/IllegalArgumentException", Cond.initialized "java/lang/IllegalArgumentException", Cond.methodLink RX2 54 yX2_requirePerson, Cond.static yX2_requirePerson, Cond.code yX2_requirePerson cX2_requirePerson 1 none, Cond.instanceMethod yX0_isFree]
def wsL_order_r2 : List Cond := [Cond.initialized RX0, Cond.selects RX0 yX0_isFree yX0_isFree, Cond.code yX0_isFree cX0_isFree 1 (some .boolean), Cond.fieldLink RX0 11 "BoxVault$Box" "state" "I", Cond.instanceMethod yX1_isFull, Cond.initialized RX1, Cond.selects RX1 yX1_isFull yX1_isFull, Cond.code yX1_isFull cX1_isFull 1 (some .boolean), Cond.fieldLink RX1 9 "BoxVault$OrderBook" "count" "I", Cond.instanceMethod yX1_add, Cond.selects RX1 yX1_add yX1_add, Cond.code yX1_add cX1_add 6 (some .int), Cond.fieldLink RX1 15 "BoxVault$OrderBook" "box" "[I", Cond.fieldLink RX1 19 "BoxVault$OrderBook" "court" "[I", Cond.fieldLink RX1 22 "BoxVault$OrderBook" "kind" "[I", Cond.fieldLink RX1 25 "BoxVault$OrderBook" "person" "[I", Cond.fieldLink RX1 28 "BoxVault$OrderBook" "holds" "[Z"]
def wsL_order : List Cond := .codeWith yL_order cL_order 7 (some .int) [(0, 14, 17, 13), (0, 14, 21, 15)] :: ((wsL_order_r1 ++ wsL_order_r2) ++ wsX20 ++ wsX00 ++ wsX10 ++ (vx_atS RX2 47 "java/lang/IllegalStateException" ["java/lang/RuntimeException", "java/lang/Exception"]).filter goodWord ++ (vx_atS RX2 98 "java/lang/IllegalArgumentException" ["java/lang/RuntimeException", "java/lang/Exception"]).filter goodWord)
def wsL_lift_r1 : List Cond := [Cond.classLink RL 52 "java/lang/IndexOutOfBoundsException", Cond.classLink RL 15 "java/lang/IllegalStateException", Cond.methodLink RL 48 yX2_lift, Cond.instanceMethod yX2_lift, Cond.selects RX2 yX2_lift yX2_lift, Cond.initialized RX2, Cond.code yX2_lift cX2_lift 3 (some .boolean), Cond.classLink RX2 177 "java/lang/IndexOutOfBoundsException", Cond.initialized "java/lang/IndexOutOfBoundsException", Cond.classLink RX2 43 "java/lang/IllegalStateException", Cond.initialized "java/lang/IllegalStateException", Cond.fieldLink RX2 18 "BoxVault" "orders" "LBoxVault$OrderBook;", Cond.instanceMethod yX1_has, Cond.initialized RX1, Cond.selects RX1 yX1_has yX1_has, Cond.code yX1_has cX1_has 2 (some .boolean), Cond.fieldLink RX1 9 "BoxVault$OrderBook" "count" "I", Cond.instanceMethod yX1_isInForce, Cond.selects RX1 yX1_isInForce yX1_isInForce, Cond.code yX1_isInForce cX1_isInForce 2 (some .boolean), Cond.fieldLink RX1 28 "BoxVault$OrderBook" "holds" "[Z", Cond.methodLink RX1 32 yX1_has, Cond.instanceMethod yX1_isBinding, Cond.selects RX1 yX1_isBinding yX1_isBinding]
def wsL_lift_r2 : List Cond := [Cond.code yX1_isBinding cX1_isBinding 2 (some .boolean), Cond.fieldLink RX1 15 "BoxVault$OrderBook" "box" "[I", Cond.methodLink RX1 36 yX1_bindingOn, Cond.instanceMethod yX1_bindingOn, Cond.selects RX1 yX1_bindingOn yX1_bindingOn, Cond.code yX1_bindingOn cX1_bindingOn 4 (some .int), Cond.fieldLink RX1 19 "BoxVault$OrderBook" "court" "[I", Cond.instanceMethod yX1_end, Cond.selects RX1 yX1_end yX1_end, Cond.code yX1_end cX1_end 2 none]
def wsL_lift : List Cond := .codeWith yL_lift cL_lift 4 (some .int) [(0, 16, 19, 52), (0, 16, 22, 15)] :: ((wsL_lift_r1 ++ wsL_lift_r2) ++ wsX20 ++ wsX10 ++ (vx_atS RX2 181 "java/lang/IndexOutOfBoundsException" ["java/lang/RuntimeException", "java/lang/Exception"]).filter goodWord ++ (vx_atS RX2 47 "java/lang/IllegalStateException" ["java/lang/RuntimeException", "java/lang/Exception"]).filter goodWord)
def wsL_enter_r1 : List Cond := [Cond.classLink RL 13 "java/lang/IllegalArgumentException", Cond.classLink RL 15 "java/lang/IllegalStateException", Cond.methodLink RL 54 yX2_enter, Cond.instanceMethod yX2_enter, Cond.selects RX2 yX2_enter yX2_enter, Cond.initialized RX2, Cond.code yX2_enter cX2_enter 6 (some .int), Cond.fieldLink RX2 30 "BoxVault" "refused" "[I", Cond.methodLink RX2 50 yX2_boxAt, Cond.instanceMethod yX2_boxAt, Cond.selects RX2 yX2_boxAt yX2_boxAt, Cond.code yX2_boxAt cX2_boxAt 2 (some (.object "BoxVault$Box")), Cond.fieldLink RX2 11 "BoxVault" "boxes" "[LBoxVault$Box;", Cond.methodLink RX2 38 yX2_requireRange, Cond.static yX2_requireRange, Cond.code yX2_requireRange cX2_requireRange 3 none, Cond.classLink RX2 94 "java/lang/IllegalArgumentException", Cond.initialized "java/lang/IllegalArgumentException", Cond.methodLink RX2 54 yX2_requirePerson, Cond.static yX2_requirePerson, Cond.code yX2_requirePerson cX2_requirePerson 1 none, Cond.methodLink RX2 77 yX2_requireRented, Cond.static yX2_requireRented, Cond.code yX2_requireRented cX2_requireRented 1 none]
def wsL_enter_r2 : List Cond := [Cond.classLink RX2 43 "java/lang/IllegalStateException", Cond.initialized "java/lang/IllegalStateException", Cond.instanceMethod yX0_isRented, Cond.initialized RX0, Cond.selects RX0 yX0_isRented yX0_isRented, Cond.code yX0_isRented cX0_isRented 1 (some .boolean), Cond.fieldLink RX0 11 "BoxVault$Box" "state" "I", Cond.methodLink RX2 81 yX2_rightOf, Cond.instanceMethod yX2_rightOf, Cond.selects RX2 yX2_rightOf yX2_rightOf, Cond.code yX2_rightOf cX2_rightOf 5 (some .int), Cond.fieldLink RX2 18 "BoxVault" "orders" "LBoxVault$OrderBook;", Cond.methodLink RX2 64 yX2_isAlive, Cond.instanceMethod yX2_isAlive, Cond.selects RX2 yX2_isAlive yX2_isAlive, Cond.code yX2_isAlive cX2_isAlive 2 (some .boolean), Cond.fieldLink RX2 22 "BoxVault" "dead" "[Z", Cond.methodLink RX2 201 yX2_isPerson, Cond.static yX2_isPerson, Cond.code yX2_isPerson cX2_isPerson 1 (some .boolean), Cond.instanceMethod yX1_bindingOn, Cond.initialized RX1, Cond.selects RX1 yX1_bindingOn yX1_bindingOn, Cond.code yX1_bindingOn cX1_bindingOn 4 (some .int)]
def wsL_enter_r3 : List Cond := [Cond.fieldLink RX1 9 "BoxVault$OrderBook" "count" "I", Cond.fieldLink RX1 28 "BoxVault$OrderBook" "holds" "[Z", Cond.fieldLink RX1 15 "BoxVault$OrderBook" "box" "[I", Cond.fieldLink RX1 19 "BoxVault$OrderBook" "court" "[I", Cond.methodLink RX2 204 yX2_orderAllows, Cond.instanceMethod yX2_orderAllows, Cond.selects RX2 yX2_orderAllows yX2_orderAllows, Cond.code yX2_orderAllows cX2_orderAllows 4 (some .boolean), Cond.instanceMethod yX1_kindOf, Cond.selects RX1 yX1_kindOf yX1_kindOf, Cond.code yX1_kindOf cX1_kindOf 2 (some .int), Cond.fieldLink RX1 22 "BoxVault$OrderBook" "kind" "[I", Cond.methodLink RX1 32 yX1_has, Cond.instanceMethod yX1_has, Cond.selects RX1 yX1_has yX1_has, Cond.code yX1_has cX1_has 2 (some .boolean), Cond.instanceMethod yX1_personOf, Cond.selects RX1 yX1_personOf yX1_personOf, Cond.code yX1_personOf cX1_personOf 2 (some .int), Cond.fieldLink RX1 25 "BoxVault$OrderBook" "person" "[I", Cond.methodLink RX2 213 yX2_isHeirOfDead, Cond.instanceMethod yX2_isHeirOfDead, Cond.selects RX2 yX2_isHeirOfDead yX2_isHeirOfDead, Cond.code yX2_isHeirOfDead cX2_isHeirOfDead 3 (some .boolean)]
def wsL_enter_r4 : List Cond := [Cond.methodLink RX2 153 yX2_isHeir, Cond.instanceMethod yX2_isHeir, Cond.selects RX2 yX2_isHeir yX2_isHeir, Cond.code yX2_isHeir cX2_isHeir 3 (some .boolean), Cond.fieldLink RX2 26 "BoxVault" "heirs" "[I", Cond.methodLink RX2 207 yX2_holderAllows, Cond.instanceMethod yX2_holderAllows, Cond.selects RX2 yX2_holderAllows yX2_holderAllows, Cond.code yX2_holderAllows cX2_holderAllows 3 (some .boolean), Cond.fieldLink RX2 33 "BoxVault" "today" "I", Cond.instanceMethod yX0_noticesOn, Cond.selects RX0 yX0_noticesOn yX0_noticesOn, Cond.code yX0_noticesOn cX0_noticesOn 2 (some .int), Cond.methodLink RX0 57 Lib.Math.min.name, Cond.static Lib.Math.min.name, Cond.initialized "java/lang/Math", Cond.code Lib.Math.min.name Lib.Math.min.code 2 (some .int), Cond.methodLink RX0 44 yX0_overdueOn, Cond.instanceMethod yX0_overdueOn, Cond.selects RX0 yX0_overdueOn yX0_overdueOn, Cond.code yX0_overdueOn cX0_overdueOn 2 (some .int), Cond.fieldLink RX0 18 "BoxVault$Box" "paidUpTo" "I", Cond.methodLink RX0 51 Lib.Math.max.name, Cond.static Lib.Math.max.name]
def wsL_enter_r5 : List Cond := [Cond.code Lib.Math.max.name Lib.Math.max.code 2 (some .int), Cond.instanceMethod yX0_hasProxyOn, Cond.selects RX0 yX0_hasProxyOn yX0_hasProxyOn, Cond.code yX0_hasProxyOn cX0_hasProxyOn 4 (some .boolean), Cond.fieldLink RX0 31 "BoxVault$Box" "proxyCount" "I", Cond.fieldLink RX0 34 "BoxVault$Box" "proxyPerson" "[I", Cond.fieldLink RX0 38 "BoxVault$Box" "proxyFirst" "[I", Cond.fieldLink RX0 41 "BoxVault$Box" "proxyLast" "[I"]
def wsL_enter : List Cond := .codeWith yL_enter cL_enter 6 (some .int) [(0, 12, 15, 13), (0, 12, 19, 15)] :: ((wsL_enter_r1 ++ (wsL_enter_r2 ++ (wsL_enter_r3 ++ (wsL_enter_r4 ++ wsL_enter_r5)))) ++ wsX20 ++ wsX00 ++ wsX10 ++ (vx_atS RX2 98 "java/lang/IllegalArgumentException" ["java/lang/RuntimeException", "java/lang/Exception"]).filter goodWord ++ (vx_atS RX2 47 "java/lang/IllegalStateException" ["java/lang/RuntimeException", "java/lang/Exception"]).filter goodWord)
def wsL_may_r1 : List Cond := [Cond.classLink RL 13 "java/lang/IllegalArgumentException", Cond.methodLink RL 57 yX2_may, Cond.instanceMethod yX2_may, Cond.selects RX2 yX2_may yX2_may, Cond.initialized RX2, Cond.code yX2_may cX2_may 4 (some .int), Cond.methodLink RX2 50 yX2_boxAt, Cond.instanceMethod yX2_boxAt, Cond.selects RX2 yX2_boxAt yX2_boxAt, Cond.code yX2_boxAt cX2_boxAt 2 (some (.object "BoxVault$Box")), Cond.fieldLink RX2 11 "BoxVault" "boxes" "[LBoxVault$Box;", Cond.methodLink RX2 38 yX2_requireRange, Cond.static yX2_requireRange, Cond.code yX2_requireRange cX2_requireRange 3 none, Cond.classLink RX2 94 "java/lang/IllegalArgumentException", Cond.initialized "java/lang/IllegalArgumentException", Cond.methodLink RX2 54 yX2_requirePerson, Cond.static yX2_requirePerson, Cond.code yX2_requirePerson cX2_requirePerson 1 none, Cond.methodLink RX2 81 yX2_rightOf, Cond.instanceMethod yX2_rightOf, Cond.selects RX2 yX2_rightOf yX2_rightOf, Cond.code yX2_rightOf cX2_rightOf 5 (some .int), Cond.fieldLink RX2 18 "BoxVault" "orders" "LBoxVault$OrderBook;"]
def wsL_may_r2 : List Cond := [Cond.instanceMethod yX0_isRented, Cond.initialized RX0, Cond.selects RX0 yX0_isRented yX0_isRented, Cond.code yX0_isRented cX0_isRented 1 (some .boolean), Cond.fieldLink RX0 11 "BoxVault$Box" "state" "I", Cond.methodLink RX2 64 yX2_isAlive, Cond.instanceMethod yX2_isAlive, Cond.selects RX2 yX2_isAlive yX2_isAlive, Cond.code yX2_isAlive cX2_isAlive 2 (some .boolean), Cond.fieldLink RX2 22 "BoxVault" "dead" "[Z", Cond.methodLink RX2 201 yX2_isPerson, Cond.static yX2_isPerson, Cond.code yX2_isPerson cX2_isPerson 1 (some .boolean), Cond.instanceMethod yX1_bindingOn, Cond.initialized RX1, Cond.selects RX1 yX1_bindingOn yX1_bindingOn, Cond.code yX1_bindingOn cX1_bindingOn 4 (some .int), Cond.fieldLink RX1 9 "BoxVault$OrderBook" "count" "I", Cond.fieldLink RX1 28 "BoxVault$OrderBook" "holds" "[Z", Cond.fieldLink RX1 15 "BoxVault$OrderBook" "box" "[I", Cond.fieldLink RX1 19 "BoxVault$OrderBook" "court" "[I", Cond.methodLink RX2 204 yX2_orderAllows, Cond.instanceMethod yX2_orderAllows, Cond.selects RX2 yX2_orderAllows yX2_orderAllows]
def wsL_may_r3 : List Cond := [Cond.code yX2_orderAllows cX2_orderAllows 4 (some .boolean), Cond.instanceMethod yX1_kindOf, Cond.selects RX1 yX1_kindOf yX1_kindOf, Cond.code yX1_kindOf cX1_kindOf 2 (some .int), Cond.fieldLink RX1 22 "BoxVault$OrderBook" "kind" "[I", Cond.methodLink RX1 32 yX1_has, Cond.instanceMethod yX1_has, Cond.selects RX1 yX1_has yX1_has, Cond.code yX1_has cX1_has 2 (some .boolean), Cond.instanceMethod yX1_personOf, Cond.selects RX1 yX1_personOf yX1_personOf, Cond.code yX1_personOf cX1_personOf 2 (some .int), Cond.fieldLink RX1 25 "BoxVault$OrderBook" "person" "[I", Cond.methodLink RX2 213 yX2_isHeirOfDead, Cond.instanceMethod yX2_isHeirOfDead, Cond.selects RX2 yX2_isHeirOfDead yX2_isHeirOfDead, Cond.code yX2_isHeirOfDead cX2_isHeirOfDead 3 (some .boolean), Cond.methodLink RX2 153 yX2_isHeir, Cond.instanceMethod yX2_isHeir, Cond.selects RX2 yX2_isHeir yX2_isHeir, Cond.code yX2_isHeir cX2_isHeir 3 (some .boolean), Cond.fieldLink RX2 26 "BoxVault" "heirs" "[I", Cond.methodLink RX2 207 yX2_holderAllows, Cond.instanceMethod yX2_holderAllows]
def wsL_may_r4 : List Cond := [Cond.selects RX2 yX2_holderAllows yX2_holderAllows, Cond.code yX2_holderAllows cX2_holderAllows 3 (some .boolean), Cond.fieldLink RX2 33 "BoxVault" "today" "I", Cond.instanceMethod yX0_noticesOn, Cond.selects RX0 yX0_noticesOn yX0_noticesOn, Cond.code yX0_noticesOn cX0_noticesOn 2 (some .int), Cond.methodLink RX0 57 Lib.Math.min.name, Cond.static Lib.Math.min.name, Cond.initialized "java/lang/Math", Cond.code Lib.Math.min.name Lib.Math.min.code 2 (some .int), Cond.methodLink RX0 44 yX0_overdueOn, Cond.instanceMethod yX0_overdueOn, Cond.selects RX0 yX0_overdueOn yX0_overdueOn, Cond.code yX0_overdueOn cX0_overdueOn 2 (some .int), Cond.fieldLink RX0 18 "BoxVault$Box" "paidUpTo" "I", Cond.methodLink RX0 51 Lib.Math.max.name, Cond.static Lib.Math.max.name, Cond.code Lib.Math.max.name Lib.Math.max.code 2 (some .int), Cond.instanceMethod yX0_hasProxyOn, Cond.selects RX0 yX0_hasProxyOn yX0_hasProxyOn, Cond.code yX0_hasProxyOn cX0_hasProxyOn 4 (some .boolean), Cond.fieldLink RX0 31 "BoxVault$Box" "proxyCount" "I", Cond.fieldLink RX0 34 "BoxVault$Box" "proxyPerson" "[I", Cond.fieldLink RX0 38 "BoxVault$Box" "proxyFirst" "[I"]
def wsL_may_r5 : List Cond := [Cond.fieldLink RX0 41 "BoxVault$Box" "proxyLast" "[I"]
def wsL_may : List Cond := .codeWith yL_may cL_may 5 (some .int) [(0, 10, 13, 13)] :: ((wsL_may_r1 ++ (wsL_may_r2 ++ (wsL_may_r3 ++ (wsL_may_r4 ++ wsL_may_r5)))) ++ wsX20 ++ wsX00 ++ wsX10 ++ (vx_atS RX2 98 "java/lang/IllegalArgumentException" ["java/lang/RuntimeException", "java/lang/Exception"]).filter goodWord)
def wsL_mayAll_r1 : List Cond := [Cond.classLink RL 13 "java/lang/IllegalArgumentException", Cond.methodLink RL 60 yX2_mayAll, Cond.instanceMethod yX2_mayAll, Cond.selects RX2 yX2_mayAll yX2_mayAll, Cond.initialized RX2, Cond.code yX2_mayAll cX2_mayAll 5 (some .int), Cond.methodLink RX2 50 yX2_boxAt, Cond.instanceMethod yX2_boxAt, Cond.selects RX2 yX2_boxAt yX2_boxAt, Cond.code yX2_boxAt cX2_boxAt 2 (some (.object "BoxVault$Box")), Cond.fieldLink RX2 11 "BoxVault" "boxes" "[LBoxVault$Box;", Cond.methodLink RX2 38 yX2_requireRange, Cond.static yX2_requireRange, Cond.code yX2_requireRange cX2_requireRange 3 none, Cond.classLink RX2 94 "java/lang/IllegalArgumentException", Cond.initialized "java/lang/IllegalArgumentException", Cond.methodLink RX2 81 yX2_rightOf, Cond.instanceMethod yX2_rightOf, Cond.selects RX2 yX2_rightOf yX2_rightOf, Cond.code yX2_rightOf cX2_rightOf 5 (some .int), Cond.fieldLink RX2 18 "BoxVault" "orders" "LBoxVault$OrderBook;", Cond.instanceMethod yX0_isRented, Cond.initialized RX0, Cond.selects RX0 yX0_isRented yX0_isRented]
def wsL_mayAll_r2 : List Cond := [Cond.code yX0_isRented cX0_isRented 1 (some .boolean), Cond.fieldLink RX0 11 "BoxVault$Box" "state" "I", Cond.methodLink RX2 64 yX2_isAlive, Cond.instanceMethod yX2_isAlive, Cond.selects RX2 yX2_isAlive yX2_isAlive, Cond.code yX2_isAlive cX2_isAlive 2 (some .boolean), Cond.fieldLink RX2 22 "BoxVault" "dead" "[Z", Cond.methodLink RX2 201 yX2_isPerson, Cond.static yX2_isPerson, Cond.code yX2_isPerson cX2_isPerson 1 (some .boolean), Cond.instanceMethod yX1_bindingOn, Cond.initialized RX1, Cond.selects RX1 yX1_bindingOn yX1_bindingOn, Cond.code yX1_bindingOn cX1_bindingOn 4 (some .int), Cond.fieldLink RX1 9 "BoxVault$OrderBook" "count" "I", Cond.fieldLink RX1 28 "BoxVault$OrderBook" "holds" "[Z", Cond.fieldLink RX1 15 "BoxVault$OrderBook" "box" "[I", Cond.fieldLink RX1 19 "BoxVault$OrderBook" "court" "[I", Cond.methodLink RX2 204 yX2_orderAllows, Cond.instanceMethod yX2_orderAllows, Cond.selects RX2 yX2_orderAllows yX2_orderAllows, Cond.code yX2_orderAllows cX2_orderAllows 4 (some .boolean), Cond.instanceMethod yX1_kindOf, Cond.selects RX1 yX1_kindOf yX1_kindOf]
def wsL_mayAll_r3 : List Cond := [Cond.code yX1_kindOf cX1_kindOf 2 (some .int), Cond.fieldLink RX1 22 "BoxVault$OrderBook" "kind" "[I", Cond.methodLink RX1 32 yX1_has, Cond.instanceMethod yX1_has, Cond.selects RX1 yX1_has yX1_has, Cond.code yX1_has cX1_has 2 (some .boolean), Cond.instanceMethod yX1_personOf, Cond.selects RX1 yX1_personOf yX1_personOf, Cond.code yX1_personOf cX1_personOf 2 (some .int), Cond.fieldLink RX1 25 "BoxVault$OrderBook" "person" "[I", Cond.methodLink RX2 213 yX2_isHeirOfDead, Cond.instanceMethod yX2_isHeirOfDead, Cond.selects RX2 yX2_isHeirOfDead yX2_isHeirOfDead, Cond.code yX2_isHeirOfDead cX2_isHeirOfDead 3 (some .boolean), Cond.methodLink RX2 153 yX2_isHeir, Cond.instanceMethod yX2_isHeir, Cond.selects RX2 yX2_isHeir yX2_isHeir, Cond.code yX2_isHeir cX2_isHeir 3 (some .boolean), Cond.fieldLink RX2 26 "BoxVault" "heirs" "[I", Cond.methodLink RX2 207 yX2_holderAllows, Cond.instanceMethod yX2_holderAllows, Cond.selects RX2 yX2_holderAllows yX2_holderAllows, Cond.code yX2_holderAllows cX2_holderAllows 3 (some .boolean), Cond.fieldLink RX2 33 "BoxVault" "today" "I"]
def wsL_mayAll_r4 : List Cond := [Cond.instanceMethod yX0_noticesOn, Cond.selects RX0 yX0_noticesOn yX0_noticesOn, Cond.code yX0_noticesOn cX0_noticesOn 2 (some .int), Cond.methodLink RX0 57 Lib.Math.min.name, Cond.static Lib.Math.min.name, Cond.initialized "java/lang/Math", Cond.code Lib.Math.min.name Lib.Math.min.code 2 (some .int), Cond.methodLink RX0 44 yX0_overdueOn, Cond.instanceMethod yX0_overdueOn, Cond.selects RX0 yX0_overdueOn yX0_overdueOn, Cond.code yX0_overdueOn cX0_overdueOn 2 (some .int), Cond.fieldLink RX0 18 "BoxVault$Box" "paidUpTo" "I", Cond.methodLink RX0 51 Lib.Math.max.name, Cond.static Lib.Math.max.name, Cond.code Lib.Math.max.name Lib.Math.max.code 2 (some .int), Cond.instanceMethod yX0_hasProxyOn, Cond.selects RX0 yX0_hasProxyOn yX0_hasProxyOn, Cond.code yX0_hasProxyOn cX0_hasProxyOn 4 (some .boolean), Cond.fieldLink RX0 31 "BoxVault$Box" "proxyCount" "I", Cond.fieldLink RX0 34 "BoxVault$Box" "proxyPerson" "[I", Cond.fieldLink RX0 38 "BoxVault$Box" "proxyFirst" "[I", Cond.fieldLink RX0 41 "BoxVault$Box" "proxyLast" "[I"]
def wsL_mayAll : List Cond := .codeWith yL_mayAll cL_mayAll 4 (some .int) [(0, 9, 12, 13)] :: ((wsL_mayAll_r1 ++ (wsL_mayAll_r2 ++ (wsL_mayAll_r3 ++ wsL_mayAll_r4))) ++ wsX20 ++ wsX00 ++ wsX10 ++ (vx_atS RX2 98 "java/lang/IllegalArgumentException" ["java/lang/RuntimeException", "java/lang/Exception"]).filter goodWord)
def wsL_holder : List Cond := .codeWith yL_holder cL_holder 4 (some .int) [(0, 9, 12, 13)] :: ([.classLink RL 13 "java/lang/IllegalArgumentException", .methodLink RL 63 yX2_holder, .instanceMethod yX2_holder, .selects RX2 yX2_holder yX2_holder, .initialized RX2, .code yX2_holder cX2_holder 2 (some .int), .methodLink RX2 50 yX2_boxAt, .instanceMethod yX2_boxAt, .selects RX2 yX2_boxAt yX2_boxAt, .code yX2_boxAt cX2_boxAt 2 (some (.object "BoxVault$Box")), .fieldLink RX2 11 "BoxVault" "boxes" "[LBoxVault$Box;", .methodLink RX2 38 yX2_requireRange, .static yX2_requireRange, .code yX2_requireRange cX2_requireRange 3 none, .classLink RX2 94 "java/lang/IllegalArgumentException", .initialized "java/lang/IllegalArgumentException"] ++ wsX00 ++ wsX20 ++ (vx_atS RX2 98 "java/lang/IllegalArgumentException" ["java/lang/RuntimeException", "java/lang/Exception"]).filter goodWord)
def wsL_notices_r1 : List Cond := [Cond.classLink RL 13 "java/lang/IllegalArgumentException", Cond.methodLink RL 66 yX2_notices, Cond.instanceMethod yX2_notices, Cond.selects RX2 yX2_notices yX2_notices, Cond.initialized RX2, Cond.code yX2_notices cX2_notices 3 (some .int), Cond.fieldLink RX2 33 "BoxVault" "today" "I", Cond.methodLink RX2 50 yX2_boxAt, Cond.instanceMethod yX2_boxAt, Cond.selects RX2 yX2_boxAt yX2_boxAt, Cond.code yX2_boxAt cX2_boxAt 2 (some (.object "BoxVault$Box")), Cond.fieldLink RX2 11 "BoxVault" "boxes" "[LBoxVault$Box;", Cond.methodLink RX2 38 yX2_requireRange, Cond.static yX2_requireRange, Cond.code yX2_requireRange cX2_requireRange 3 none, Cond.classLink RX2 94 "java/lang/IllegalArgumentException", Cond.initialized "java/lang/IllegalArgumentException", Cond.instanceMethod yX0_isRented, Cond.initialized RX0, Cond.selects RX0 yX0_isRented yX0_isRented, Cond.code yX0_isRented cX0_isRented 1 (some .boolean), Cond.fieldLink RX0 11 "BoxVault$Box" "state" "I", Cond.instanceMethod yX0_noticesOn, Cond.selects RX0 yX0_noticesOn yX0_noticesOn]
def wsL_notices_r2 : List Cond := [Cond.code yX0_noticesOn cX0_noticesOn 2 (some .int), Cond.methodLink RX0 57 Lib.Math.min.name, Cond.static Lib.Math.min.name, Cond.initialized "java/lang/Math", Cond.code Lib.Math.min.name Lib.Math.min.code 2 (some .int), Cond.methodLink RX0 44 yX0_overdueOn, Cond.instanceMethod yX0_overdueOn, Cond.selects RX0 yX0_overdueOn yX0_overdueOn, Cond.code yX0_overdueOn cX0_overdueOn 2 (some .int), Cond.fieldLink RX0 18 "BoxVault$Box" "paidUpTo" "I", Cond.methodLink RX0 51 Lib.Math.max.name, Cond.static Lib.Math.max.name, Cond.code Lib.Math.max.name Lib.Math.max.code 2 (some .int)]
def wsL_notices : List Cond := .codeWith yL_notices cL_notices 4 (some .int) [(0, 9, 12, 13)] :: ((wsL_notices_r1 ++ wsL_notices_r2) ++ wsX20 ++ wsX00 ++ (vx_atS RX2 98 "java/lang/IllegalArgumentException" ["java/lang/RuntimeException", "java/lang/Exception"]).filter goodWord)
def wsL_refusals : List Cond := .codeWith yL_refusals cL_refusals 4 (some .int) [(0, 9, 12, 13)] :: ([.classLink RL 13 "java/lang/IllegalArgumentException", .methodLink RL 69 yX2_refusals, .instanceMethod yX2_refusals, .selects RX2 yX2_refusals yX2_refusals, .initialized RX2, .code yX2_refusals cX2_refusals 2 (some .int), .fieldLink RX2 30 "BoxVault" "refused" "[I", .methodLink RX2 54 yX2_requirePerson, .static yX2_requirePerson, .code yX2_requirePerson cX2_requirePerson 1 none, .methodLink RX2 38 yX2_requireRange, .static yX2_requireRange, .code yX2_requireRange cX2_requireRange 3 none, .classLink RX2 94 "java/lang/IllegalArgumentException", .initialized "java/lang/IllegalArgumentException"] ++ wsX20 ++ (vx_atS RX2 98 "java/lang/IllegalArgumentException" ["java/lang/RuntimeException", "java/lang/Exception"]).filter goodWord)
def wsL_binding : List Cond := .codeWith yL_binding cL_binding 4 (some .int) [(0, 9, 12, 13)] :: ([.classLink RL 13 "java/lang/IllegalArgumentException", .methodLink RL 72 yX2_binding, .instanceMethod yX2_binding, .selects RX2 yX2_binding yX2_binding, .initialized RX2, .code yX2_binding cX2_binding 2 (some .int), .fieldLink RX2 18 "BoxVault" "orders" "LBoxVault$OrderBook;", .methodLink RX2 38 yX2_requireRange, .static yX2_requireRange, .code yX2_requireRange cX2_requireRange 3 none, .classLink RX2 94 "java/lang/IllegalArgumentException", .initialized "java/lang/IllegalArgumentException", .instanceMethod yX1_bindingOn, .initialized RX1, .selects RX1 yX1_bindingOn yX1_bindingOn, .code yX1_bindingOn cX1_bindingOn 4 (some .int), .fieldLink RX1 9 "BoxVault$OrderBook" "count" "I", .fieldLink RX1 28 "BoxVault$OrderBook" "holds" "[Z", .fieldLink RX1 15 "BoxVault$OrderBook" "box" "[I", .fieldLink RX1 19 "BoxVault$OrderBook" "court" "[I"] ++ wsX20 ++ wsX10 ++ (vx_atS RX2 98 "java/lang/IllegalArgumentException" ["java/lang/RuntimeException", "java/lang/Exception"]).filter goodWord)
def wsL_law0_r1 : List Cond := [Cond.classLink RL 8 RX2, Cond.instantiable RX2 6, Cond.initialized RX2, Cond.classLink RL 76 RX3, Cond.instantiable RX3 21, Cond.initialized RX3, Cond.arrayClass .long, Cond.methodLink RL 75 yX2_init, Cond.instanceMethod yX2_init, Cond.code yX2_init cX2_init 2 none, Cond.methodLink RX2 1 objectInit, Cond.instanceMethod objectInit, Cond.code objectInit ⟨#[0xb1]⟩ 1 none, Cond.classLink RX2 9 RX0, Cond.fieldLink RX2 11 "BoxVault" "boxes" "[LBoxVault$Box;", Cond.classLink RX2 15 RX1, Cond.instantiable RX1 6, Cond.initialized RX1, Cond.fieldLink RX2 18 "BoxVault" "orders" "LBoxVault$OrderBook;", Cond.arrayClass .boolean, Cond.fieldLink RX2 22 "BoxVault" "dead" "[Z", Cond.arrayClass .int, Cond.fieldLink RX2 26 "BoxVault" "heirs" "[I", Cond.fieldLink RX2 30 "BoxVault" "refused" "[I"]
def wsL_law0_r2 : List Cond := [Cond.fieldLink RX2 33 "BoxVault" "today" "I", Cond.instantiable RX0 10, Cond.initialized RX0, Cond.instanceMethod yX1_init, Cond.code yX1_init cX1_init 1 none, Cond.methodLink RX1 3 objectInit, Cond.fieldLink RX1 9 "BoxVault$OrderBook" "count" "I", Cond.fieldLink RX1 15 "BoxVault$OrderBook" "box" "[I", Cond.fieldLink RX1 19 "BoxVault$OrderBook" "court" "[I", Cond.fieldLink RX1 22 "BoxVault$OrderBook" "kind" "[I", Cond.fieldLink RX1 25 "BoxVault$OrderBook" "person" "[I", Cond.fieldLink RX1 28 "BoxVault$OrderBook" "holds" "[Z", Cond.instanceMethod yX0_init, Cond.code yX0_init cX0_init 1 none, Cond.methodLink RX0 3 objectInit, Cond.fieldLink RX0 11 "BoxVault$Box" "state" "I", Cond.fieldLink RX0 15 "BoxVault$Box" "holder" "I", Cond.fieldLink RX0 18 "BoxVault$Box" "paidUpTo" "I", Cond.fieldLink RX0 21 "BoxVault$Box" "unpaidDays" "I", Cond.fieldLink RX0 24 "BoxVault$Box" "entries" "I", Cond.fieldLink RX0 27 "BoxVault$Box" "willSought" "Z", Cond.fieldLink RX0 31 "BoxVault$Box" "proxyCount" "I", Cond.fieldLink RX0 34 "BoxVault$Box" "proxyPerson" "[I", Cond.fieldLink RX0 38 "BoxVault$Box" "proxyFirst" "[I"]
def wsL_law0_r3 : List Cond := [Cond.fieldLink RX0 41 "BoxVault$Box" "proxyLast" "[I", Cond.methodLink RL 78 yX3_init, Cond.instanceMethod yX3_init, Cond.code yX3_init cX3_init 1 none, Cond.methodLink RX3 1 objectInit, Cond.fieldLink RX3 7 "BoxVaultModel" "dead" "[Z", Cond.fieldLink RX3 13 "BoxVaultModel" "heirs" "[I", Cond.fieldLink RX3 17 "BoxVaultModel" "refusals" "[I", Cond.fieldLink RX3 20 "BoxVaultModel" "state" "[I", Cond.fieldLink RX3 23 "BoxVaultModel" "holder" "[I", Cond.fieldLink RX3 26 "BoxVaultModel" "paid" "[I", Cond.fieldLink RX3 29 "BoxVaultModel" "entries" "[I", Cond.fieldLink RX3 32 "BoxVaultModel" "looked" "[Z", Cond.fieldLink RX3 35 "BoxVaultModel" "owed" "[I", Cond.fieldLink RX3 38 "BoxVaultModel" "proxies" "[I", Cond.fieldLink RX3 41 "BoxVaultModel" "proxy" "[I", Cond.fieldLink RX3 44 "BoxVaultModel" "from" "[I", Cond.fieldLink RX3 47 "BoxVaultModel" "to" "[I", Cond.fieldLink RX3 50 "BoxVaultModel" "at" "[I", Cond.fieldLink RX3 53 "BoxVaultModel" "court" "[I", Cond.fieldLink RX3 56 "BoxVaultModel" "kind" "[I", Cond.fieldLink RX3 59 "BoxVaultModel" "alone" "[I", Cond.fieldLink RX3 62 "BoxVaultModel" "holds" "[Z", Cond.methodLink RL 79 yL_pass]
def wsL_law0_r4 : List Cond := [Cond.static yL_pass, Cond.initialized RL, Cond.codeWith yL_pass cL_pass 4 (some .int) [(0, 9, 12, 13), (0, 9, 15, 15)], Cond.classLink RL 13 "java/lang/IllegalArgumentException", Cond.classLink RL 15 "java/lang/IllegalStateException", Cond.methodLink RL 7 yX2_pass, Cond.instanceMethod yX2_pass, Cond.selects RX2 yX2_pass yX2_pass, Cond.code yX2_pass cX2_pass 2 (some .int), Cond.classLink RX2 43 "java/lang/IllegalStateException", Cond.initialized "java/lang/IllegalStateException", Cond.constant RX2 42 (99999), Cond.methodLink RX2 38 yX2_requireRange, Cond.static yX2_requireRange, Cond.code yX2_requireRange cX2_requireRange 3 none, Cond.classLink RX2 94 "java/lang/IllegalArgumentException", Cond.initialized "java/lang/IllegalArgumentException", Cond.methodLink RL 84 yX3_pass, Cond.instanceMethod yX3_pass, Cond.selects RX3 yX3_pass yX3_pass, Cond.code yX3_pass cX3_pass 2 (some .int), Cond.fieldLink RX3 65 "BoxVaultModel" "thrown" "I", Cond.fieldLink RX3 73 "BoxVaultModel" "now" "I", Cond.constant RX3 106 (99999)]
def wsL_law0_r5 : List Cond := [Cond.methodLink RX3 69 yX3_in, Cond.static yX3_in, Cond.code yX3_in cX3_in 3 (some .boolean), Cond.methodLink RX3 103 yX3_fails, Cond.instanceMethod yX3_fails, Cond.selects RX3 yX3_fails yX3_fails, Cond.code yX3_fails cX3_fails 2 (some .int), Cond.methodLink RL 85 yX3_thrown, Cond.instanceMethod yX3_thrown, Cond.selects RX3 yX3_thrown yX3_thrown, Cond.code yX3_thrown cX3_thrown 1 (some .int), Cond.methodLink RL 89 yL_rent, Cond.static yL_rent, Cond.codeWith yL_rent cL_rent 6 (some .int) [(0, 12, 15, 13), (0, 12, 19, 15)], Cond.methodLink RL 17 yX2_rent, Cond.instanceMethod yX2_rent, Cond.selects RX2 yX2_rent yX2_rent, Cond.code yX2_rent cX2_rent 5 (some .int), Cond.methodLink RX2 50 yX2_boxAt, Cond.instanceMethod yX2_boxAt, Cond.selects RX2 yX2_boxAt yX2_boxAt, Cond.code yX2_boxAt cX2_boxAt 2 (some (.object "BoxVault$Box")), Cond.methodLink RX2 54 yX2_requirePerson, Cond.static yX2_requirePerson]
def wsL_law0_r6 : List Cond := [Cond.code yX2_requirePerson cX2_requirePerson 1 none, Cond.instanceMethod yX0_isFree, Cond.selects RX0 yX0_isFree yX0_isFree, Cond.code yX0_isFree cX0_isFree 1 (some .boolean), Cond.methodLink RX2 64 yX2_isAlive, Cond.instanceMethod yX2_isAlive, Cond.selects RX2 yX2_isAlive yX2_isAlive, Cond.code yX2_isAlive cX2_isAlive 2 (some .boolean), Cond.methodLink RX2 201 yX2_isPerson, Cond.static yX2_isPerson, Cond.code yX2_isPerson cX2_isPerson 1 (some .boolean), Cond.instanceMethod yX0_startRent, Cond.selects RX0 yX0_startRent yX0_startRent, Cond.code yX0_startRent cX0_startRent 3 none, Cond.methodLink RL 92 yX3_rent, Cond.instanceMethod yX3_rent, Cond.selects RX3 yX3_rent yX3_rent, Cond.code yX3_rent cX3_rent 4 (some .int), Cond.methodLink RX3 107 yX3_isBox, Cond.static yX3_isBox, Cond.code yX3_isBox cX3_isBox 1 (some .boolean), Cond.methodLink RX3 110 yX3_isPerson, Cond.static yX3_isPerson, Cond.code yX3_isPerson cX3_isPerson 1 (some .boolean)]
def wsL_law0_r7 : List Cond := [Cond.methodLink RL 93 yL_extend, Cond.static yL_extend, Cond.codeWith yL_extend cL_extend 5 (some .int) [(0, 10, 13, 13), (0, 10, 17, 15)], Cond.methodLink RL 21 yX2_extend, Cond.instanceMethod yX2_extend, Cond.selects RX2 yX2_extend yX2_extend, Cond.code yX2_extend cX2_extend 4 (some .int), Cond.methodLink RX2 77 yX2_requireRented, Cond.static yX2_requireRented, Cond.code yX2_requireRented cX2_requireRented 1 none, Cond.instanceMethod yX0_isRented, Cond.selects RX0 yX0_isRented yX0_isRented, Cond.code yX0_isRented cX0_isRented 1 (some .boolean), Cond.methodLink RL 96 yX3_extend, Cond.instanceMethod yX3_extend, Cond.selects RX3 yX3_extend yX3_extend, Cond.code yX3_extend cX3_extend 3 (some .int), Cond.methodLink RX3 80 yX3_isRented, Cond.instanceMethod yX3_isRented, Cond.selects RX3 yX3_isRented yX3_isRented, Cond.code yX3_isRented cX3_isRented 2 (some .boolean), Cond.methodLink RL 97 yL_giveBack, Cond.static yL_giveBack, Cond.codeWith yL_giveBack cL_giveBack 5 (some .int) [(0, 10, 13, 13), (0, 10, 17, 15)]]
def wsL_law0_r8 : List Cond := [Cond.methodLink RL 25 yX2_giveBack, Cond.instanceMethod yX2_giveBack, Cond.selects RX2 yX2_giveBack yX2_giveBack, Cond.code yX2_giveBack cX2_giveBack 5 (some .int), Cond.methodLink RX2 81 yX2_rightOf, Cond.instanceMethod yX2_rightOf, Cond.selects RX2 yX2_rightOf yX2_rightOf, Cond.code yX2_rightOf cX2_rightOf 5 (some .int), Cond.instanceMethod yX1_bindingOn, Cond.selects RX1 yX1_bindingOn yX1_bindingOn, Cond.code yX1_bindingOn cX1_bindingOn 4 (some .int), Cond.methodLink RX2 204 yX2_orderAllows, Cond.instanceMethod yX2_orderAllows, Cond.selects RX2 yX2_orderAllows yX2_orderAllows, Cond.code yX2_orderAllows cX2_orderAllows 4 (some .boolean), Cond.instanceMethod yX1_kindOf, Cond.selects RX1 yX1_kindOf yX1_kindOf, Cond.code yX1_kindOf cX1_kindOf 2 (some .int), Cond.methodLink RX1 32 yX1_has, Cond.instanceMethod yX1_has, Cond.selects RX1 yX1_has yX1_has, Cond.code yX1_has cX1_has 2 (some .boolean), Cond.instanceMethod yX1_personOf, Cond.selects RX1 yX1_personOf yX1_personOf]
def wsL_law0_r9 : List Cond := [Cond.code yX1_personOf cX1_personOf 2 (some .int), Cond.methodLink RX2 213 yX2_isHeirOfDead, Cond.instanceMethod yX2_isHeirOfDead, Cond.selects RX2 yX2_isHeirOfDead yX2_isHeirOfDead, Cond.code yX2_isHeirOfDead cX2_isHeirOfDead 3 (some .boolean), Cond.methodLink RX2 153 yX2_isHeir, Cond.instanceMethod yX2_isHeir, Cond.selects RX2 yX2_isHeir yX2_isHeir, Cond.code yX2_isHeir cX2_isHeir 3 (some .boolean), Cond.methodLink RX2 207 yX2_holderAllows, Cond.instanceMethod yX2_holderAllows, Cond.selects RX2 yX2_holderAllows yX2_holderAllows, Cond.code yX2_holderAllows cX2_holderAllows 3 (some .boolean), Cond.instanceMethod yX0_noticesOn, Cond.selects RX0 yX0_noticesOn yX0_noticesOn, Cond.code yX0_noticesOn cX0_noticesOn 2 (some .int), Cond.methodLink RX0 57 Lib.Math.min.name, Cond.static Lib.Math.min.name, Cond.initialized "java/lang/Math", Cond.code Lib.Math.min.name Lib.Math.min.code 2 (some .int), Cond.methodLink RX0 44 yX0_overdueOn, Cond.instanceMethod yX0_overdueOn, Cond.selects RX0 yX0_overdueOn yX0_overdueOn, Cond.code yX0_overdueOn cX0_overdueOn 2 (some .int)]
def wsL_law0_r10 : List Cond := [Cond.methodLink RX0 51 Lib.Math.max.name, Cond.static Lib.Math.max.name, Cond.code Lib.Math.max.name Lib.Math.max.code 2 (some .int), Cond.instanceMethod yX0_hasProxyOn, Cond.selects RX0 yX0_hasProxyOn yX0_hasProxyOn, Cond.code yX0_hasProxyOn cX0_hasProxyOn 4 (some .boolean), Cond.methodLink RX2 90 yX2_makeFree, Cond.instanceMethod yX2_makeFree, Cond.selects RX2 yX2_makeFree yX2_makeFree, Cond.code yX2_makeFree cX2_makeFree 3 none, Cond.instanceMethod yX0_empty, Cond.selects RX0 yX0_empty yX0_empty, Cond.code yX0_empty cX0_empty 1 none, Cond.methodLink RX0 48 yX0_endProxies, Cond.instanceMethod yX0_endProxies, Cond.selects RX0 yX0_endProxies yX0_endProxies, Cond.code yX0_endProxies cX0_endProxies 1 none, Cond.instanceMethod yX1_endAllOn, Cond.selects RX1 yX1_endAllOn yX1_endAllOn, Cond.code yX1_endAllOn cX1_endAllOn 3 none, Cond.methodLink RL 99 yX3_giveBack, Cond.instanceMethod yX3_giveBack, Cond.selects RX3 yX3_giveBack yX3_giveBack, Cond.code yX3_giveBack cX3_giveBack 3 (some .int)]
def wsL_law0_r11 : List Cond := [Cond.methodLink RX3 113 yX3_right, Cond.instanceMethod yX3_right, Cond.selects RX3 yX3_right yX3_right, Cond.code yX3_right cX3_right 4 (some .int), Cond.methodLink RX3 91 yX3_binds, Cond.instanceMethod yX3_binds, Cond.selects RX3 yX3_binds yX3_binds, Cond.code yX3_binds cX3_binds 5 (some .int), Cond.fieldLink RX3 84 "BoxVaultModel" "orders" "I", Cond.methodLink RX3 94 yX3_isOrdered, Cond.instanceMethod yX3_isOrdered, Cond.selects RX3 yX3_isOrdered yX3_isOrdered, Cond.code yX3_isOrdered cX3_isOrdered 4 (some .boolean), Cond.methodLink RX3 87 yX3_isHeir, Cond.instanceMethod yX3_isHeir, Cond.selects RX3 yX3_isHeir yX3_isHeir, Cond.code yX3_isHeir cX3_isHeir 3 (some .boolean), Cond.methodLink RX3 97 yX3_noticesOf, Cond.instanceMethod yX3_noticesOf, Cond.selects RX3 yX3_noticesOf yX3_noticesOf, Cond.code yX3_noticesOf cX3_noticesOf 3 (some .int), Cond.methodLink RX3 76 yX3_overdue, Cond.instanceMethod yX3_overdue, Cond.selects RX3 yX3_overdue yX3_overdue]
def wsL_law0_r12 : List Cond := [Cond.code yX3_overdue cX3_overdue 2 (some .int), Cond.methodLink RX3 100 yX3_isProxy, Cond.instanceMethod yX3_isProxy, Cond.selects RX3 yX3_isProxy yX3_isProxy, Cond.code yX3_isProxy cX3_isProxy 5 (some .boolean), Cond.methodLink RX3 117 yX3_frees, Cond.instanceMethod yX3_frees, Cond.selects RX3 yX3_frees yX3_frees, Cond.code yX3_frees cX3_frees 3 none, Cond.methodLink RL 100 yL_drill, Cond.static yL_drill, Cond.codeWith yL_drill cL_drill 6 (some .int) [(0, 12, 15, 13), (0, 12, 19, 15)], Cond.methodLink RL 28 yX2_drill, Cond.instanceMethod yX2_drill, Cond.selects RX2 yX2_drill yX2_drill, Cond.code yX2_drill cX2_drill 5 (some .int), Cond.methodLink RX2 105 yX2_canWitness, Cond.instanceMethod yX2_canWitness, Cond.selects RX2 yX2_canWitness yX2_canWitness, Cond.code yX2_canWitness cX2_canWitness 3 (some .boolean), Cond.instanceMethod yX0_breakOpen, Cond.selects RX0 yX0_breakOpen yX0_breakOpen, Cond.code yX0_breakOpen cX0_breakOpen 2 none, Cond.methodLink RL 102 yX3_drill]
def wsL_law0_r13 : List Cond := [Cond.instanceMethod yX3_drill, Cond.selects RX3 yX3_drill yX3_drill, Cond.code yX3_drill cX3_drill 6 (some .int), Cond.methodLink RL 103 yL_fetch, Cond.static yL_fetch, Cond.codeWith yL_fetch cL_fetch 5 (some .int) [(0, 10, 13, 13), (0, 10, 17, 15)], Cond.methodLink RL 31 yX2_fetch, Cond.instanceMethod yX2_fetch, Cond.selects RX2 yX2_fetch yX2_fetch, Cond.code yX2_fetch cX2_fetch 5 (some .int), Cond.methodLink RX2 130 yX2_mayFetch, Cond.instanceMethod yX2_mayFetch, Cond.selects RX2 yX2_mayFetch yX2_mayFetch, Cond.code yX2_mayFetch cX2_mayFetch 5 (some .boolean), Cond.methodLink RL 105 yX3_fetch, Cond.instanceMethod yX3_fetch, Cond.selects RX3 yX3_fetch yX3_fetch, Cond.code yX3_fetch cX3_fetch 5 (some .int), Cond.methodLink RL 106 yL_proxy, Cond.static yL_proxy, Cond.codeWith yL_proxy cL_proxy 7 (some .int) [(0, 14, 17, 13), (0, 14, 21, 15)], Cond.methodLink RL 34 yX2_proxy, Cond.instanceMethod yX2_proxy, Cond.selects RX2 yX2_proxy yX2_proxy]
def wsL_law0_r14 : List Cond := [Cond.code yX2_proxy cX2_proxy 6 (some .int), Cond.instanceMethod yX0_addProxy, Cond.selects RX0 yX0_addProxy yX0_addProxy, Cond.code yX0_addProxy cX0_addProxy 4 none, Cond.methodLink RL 109 yX3_proxy, Cond.instanceMethod yX3_proxy, Cond.selects RX3 yX3_proxy yX3_proxy, Cond.code yX3_proxy cX3_proxy 6 (some .int), Cond.methodLink RL 110 yL_heir, Cond.static yL_heir, Cond.codeWith yL_heir cL_heir 6 (some .int) [(0, 19, 22, 13)], Cond.methodLink RL 38 yX2_heir, Cond.instanceMethod yX2_heir, Cond.selects RX2 yX2_heir yX2_heir, Cond.code yX2_heir cX2_heir 6 (some .boolean), Cond.methodLink RL 113 yX3_heir, Cond.instanceMethod yX3_heir, Cond.selects RX3 yX3_heir yX3_heir, Cond.code yX3_heir cX3_heir 5 (some .boolean), Cond.methodLink RL 114 yL_die, Cond.static yL_die, Cond.codeWith yL_die cL_die 4 (some .int) [(0, 9, 12, 13), (0, 9, 15, 15)], Cond.methodLink RL 42 yX2_die, Cond.instanceMethod yX2_die]
def wsL_law0_r15 : List Cond := [Cond.selects RX2 yX2_die yX2_die, Cond.code yX2_die cX2_die 4 (some .int), Cond.methodLink RL 116 yX3_die, Cond.instanceMethod yX3_die, Cond.selects RX3 yX3_die yX3_die, Cond.code yX3_die cX3_die 5 (some .int), Cond.methodLink RL 117 yL_order, Cond.static yL_order, Cond.codeWith yL_order cL_order 7 (some .int) [(0, 14, 17, 13), (0, 14, 21, 15)], Cond.methodLink RL 45 yX2_order, Cond.instanceMethod yX2_order, Cond.selects RX2 yX2_order yX2_order, Cond.code yX2_order cX2_order 6 (some .int), Cond.instanceMethod yX1_isFull, Cond.selects RX1 yX1_isFull yX1_isFull, Cond.code yX1_isFull cX1_isFull 1 (some .boolean), Cond.instanceMethod yX1_add, Cond.selects RX1 yX1_add yX1_add, Cond.code yX1_add cX1_add 6 (some .int), Cond.methodLink RL 119 yX3_order, Cond.instanceMethod yX3_order, Cond.selects RX3 yX3_order yX3_order, Cond.code yX3_order cX3_order 5 (some .int), Cond.methodLink RL 120 yL_lift]
def wsL_law0_r16 : List Cond := [Cond.static yL_lift, Cond.codeWith yL_lift cL_lift 4 (some .int) [(0, 16, 19, 52), (0, 16, 22, 15)], Cond.classLink RL 52 "java/lang/IndexOutOfBoundsException", Cond.methodLink RL 48 yX2_lift, Cond.instanceMethod yX2_lift, Cond.selects RX2 yX2_lift yX2_lift, Cond.code yX2_lift cX2_lift 3 (some .boolean), Cond.classLink RX2 177 "java/lang/IndexOutOfBoundsException", Cond.initialized "java/lang/IndexOutOfBoundsException", Cond.instanceMethod yX1_isInForce, Cond.selects RX1 yX1_isInForce yX1_isInForce, Cond.code yX1_isInForce cX1_isInForce 2 (some .boolean), Cond.instanceMethod yX1_isBinding, Cond.selects RX1 yX1_isBinding yX1_isBinding, Cond.code yX1_isBinding cX1_isBinding 2 (some .boolean), Cond.methodLink RX1 36 yX1_bindingOn, Cond.instanceMethod yX1_end, Cond.selects RX1 yX1_end yX1_end, Cond.code yX1_end cX1_end 2 none, Cond.methodLink RL 122 yX3_lift, Cond.instanceMethod yX3_lift, Cond.selects RX3 yX3_lift yX3_lift, Cond.code yX3_lift cX3_lift 3 (some .boolean), Cond.methodLink RL 123 yL_enter]
def wsL_law0_r17 : List Cond := [Cond.static yL_enter, Cond.codeWith yL_enter cL_enter 6 (some .int) [(0, 12, 15, 13), (0, 12, 19, 15)], Cond.methodLink RL 54 yX2_enter, Cond.instanceMethod yX2_enter, Cond.selects RX2 yX2_enter yX2_enter, Cond.code yX2_enter cX2_enter 6 (some .int), Cond.methodLink RL 125 yX3_enter, Cond.instanceMethod yX3_enter, Cond.selects RX3 yX3_enter yX3_enter, Cond.code yX3_enter cX3_enter 6 (some .int), Cond.methodLink RL 126 yL_may, Cond.static yL_may, Cond.codeWith yL_may cL_may 5 (some .int) [(0, 10, 13, 13)], Cond.methodLink RL 57 yX2_may, Cond.instanceMethod yX2_may, Cond.selects RX2 yX2_may yX2_may, Cond.code yX2_may cX2_may 4 (some .int), Cond.methodLink RL 128 yX3_may, Cond.instanceMethod yX3_may, Cond.selects RX3 yX3_may yX3_may, Cond.code yX3_may cX3_may 3 (some .int), Cond.methodLink RL 129 yL_mayAll, Cond.static yL_mayAll, Cond.codeWith yL_mayAll cL_mayAll 4 (some .int) [(0, 9, 12, 13)]]
def wsL_law0_r18 : List Cond := [Cond.methodLink RL 60 yX2_mayAll, Cond.instanceMethod yX2_mayAll, Cond.selects RX2 yX2_mayAll yX2_mayAll, Cond.code yX2_mayAll cX2_mayAll 5 (some .int), Cond.methodLink RL 131 yX3_mayAll, Cond.instanceMethod yX3_mayAll, Cond.selects RX3 yX3_mayAll yX3_mayAll, Cond.code yX3_mayAll cX3_mayAll 4 (some .int), Cond.methodLink RL 132 yL_holder, Cond.static yL_holder, Cond.codeWith yL_holder cL_holder 4 (some .int) [(0, 9, 12, 13)], Cond.methodLink RL 63 yX2_holder, Cond.instanceMethod yX2_holder, Cond.selects RX2 yX2_holder yX2_holder, Cond.code yX2_holder cX2_holder 2 (some .int), Cond.methodLink RL 134 yX3_holder, Cond.instanceMethod yX3_holder, Cond.selects RX3 yX3_holder yX3_holder, Cond.code yX3_holder cX3_holder 2 (some .int), Cond.methodLink RL 135 yL_notices, Cond.static yL_notices, Cond.codeWith yL_notices cL_notices 4 (some .int) [(0, 9, 12, 13)], Cond.methodLink RL 66 yX2_notices, Cond.instanceMethod yX2_notices]
def wsL_law0_r19 : List Cond := [Cond.selects RX2 yX2_notices yX2_notices, Cond.code yX2_notices cX2_notices 3 (some .int), Cond.methodLink RL 137 yX3_notices, Cond.instanceMethod yX3_notices, Cond.selects RX3 yX3_notices yX3_notices, Cond.code yX3_notices cX3_notices 2 (some .int), Cond.methodLink RL 138 yL_refusals, Cond.static yL_refusals, Cond.codeWith yL_refusals cL_refusals 4 (some .int) [(0, 9, 12, 13)], Cond.methodLink RL 69 yX2_refusals, Cond.instanceMethod yX2_refusals, Cond.selects RX2 yX2_refusals yX2_refusals, Cond.code yX2_refusals cX2_refusals 2 (some .int), Cond.methodLink RL 140 yX3_refusals, Cond.instanceMethod yX3_refusals, Cond.selects RX3 yX3_refusals yX3_refusals, Cond.code yX3_refusals cX3_refusals 2 (some .int), Cond.methodLink RL 141 yL_binding, Cond.static yL_binding, Cond.codeWith yL_binding cL_binding 4 (some .int) [(0, 9, 12, 13)], Cond.methodLink RL 72 yX2_binding, Cond.instanceMethod yX2_binding, Cond.selects RX2 yX2_binding yX2_binding, Cond.code yX2_binding cX2_binding 2 (some .int)]
def wsL_law0_r20 : List Cond := [Cond.methodLink RL 143 yX3_binding, Cond.instanceMethod yX3_binding, Cond.selects RX3 yX3_binding yX3_binding, Cond.code yX3_binding cX3_binding 2 (some .int)]
def wsL_law0 : List Cond := (wsL_law0_r1 ++ (wsL_law0_r2 ++ (wsL_law0_r3 ++ (wsL_law0_r4 ++ (wsL_law0_r5 ++ (wsL_law0_r6 ++ (wsL_law0_r7 ++ (wsL_law0_r8 ++ (wsL_law0_r9 ++ (wsL_law0_r10 ++ (wsL_law0_r11 ++ (wsL_law0_r12 ++ (wsL_law0_r13 ++ (wsL_law0_r14 ++ (wsL_law0_r15 ++ (wsL_law0_r16 ++ (wsL_law0_r17 ++ (wsL_law0_r18 ++ (wsL_law0_r19 ++ wsL_law0_r20))))))))))))))))))) ++ wsX20 ++ wsX30 ++ wsX10 ++ wsX00 ++ ([] : List Cond)
def wsL_law : List Cond := wsL_law0 ++ (vx_atS RX2 47 "java/lang/IllegalStateException" ["java/lang/RuntimeException", "java/lang/Exception"]).filter goodWord ++ (vx_atS RX2 98 "java/lang/IllegalArgumentException" ["java/lang/RuntimeException", "java/lang/Exception"]).filter goodWord ++ (vx_atS RX2 181 "java/lang/IndexOutOfBoundsException" ["java/lang/RuntimeException", "java/lang/Exception"]).filter goodWord
/-- words of one list among another's, by their places -/
theorem bv_mem {big : List Cond} (ws : List Cond) (ps : List Nat) (hp : ws = ps.filterMap (fun i => big[i]?)) : ∀ w ∈ ws, w ∈ big := by
  intro w hw
  rw [hp] at hw
  obtain ⟨i, -, hi⟩ := List.mem_filterMap.mp hw
  exact List.mem_of_getElem? hi
set_option maxRecDepth 20000 in
theorem bv_in_r1 : ∀ w ∈ wsL_law0_r1, w ∈ lw_tbl := fun w h => bv_mem wsL_law0_r1 [53, 54, 42, 540, 541, 45, 736, 55, 56, 57, 58, 59, 60, 61, 133, 63, 64, 43, 134, 89, 135, 88, 136, 137] (by decide +kernel) w h
set_option maxRecDepth 20000 in
theorem bv_in_r2 : ∀ w ∈ wsL_law0_r2, w ∈ lw_tbl := fun w h => bv_mem wsL_law0_r2 [138, 90, 44, 66, 67, 68, 69, 70, 71, 72, 73, 74, 92, 93, 94, 95, 97, 99, 101, 103, 105, 107, 109, 110] (by decide +kernel) w h
set_option maxRecDepth 20000 in
theorem bv_in_r3 : ∀ w ∈ wsL_law0_r3, w ∈ lw_tbl := fun w h => bv_mem wsL_law0_r3 [111, 542, 543, 544, 545, 548, 549, 550, 551, 552, 553, 554, 555, 556, 557, 558, 559, 560, 562, 563, 564, 565, 566, 152] (by decide +kernel) w h
set_option maxRecDepth 20000 in
theorem bv_in_r4 : ∀ w ∈ wsL_law0_r4, w ∈ lw_tbl := fun w h => bv_mem wsL_law0_r4 [153, 41, 154, 155, 156, 157, 158, 159, 160, 233, 50, 232, 161, 162, 163, 164, 49, 614, 615, 616, 617, 546, 547, 625] (by decide +kernel) w h
set_option maxRecDepth 20000 in
theorem bv_in_r5 : ∀ w ∈ wsL_law0_r5, w ∈ lw_tbl := fun w h => bv_mem wsL_law0_r5 [618, 619, 620, 621, 623, 31, 624, 610, 611, 612, 613, 249, 250, 251, 252, 253, 254, 255, 256, 258, 1, 259, 260, 261] (by decide +kernel) w h
set_option maxRecDepth 20000 in
theorem bv_in_r6 : ∀ w ∈ wsL_law0_r6, w ∈ lw_tbl := fun w h => bv_mem wsL_law0_r6 [262, 265, 2, 266, 268, 270, 3, 271, 272, 273, 274, 278, 4, 279, 626, 627, 628, 629, 630, 631, 632, 633, 634, 635] (by decide +kernel) w h
set_option maxRecDepth 20000 in
theorem bv_in_r7 : ∀ w ∈ wsL_law0_r7, w ∈ lw_tbl := fun w h => bv_mem wsL_law0_r7 [280, 281, 282, 283, 284, 285, 286, 287, 288, 289, 292, 5, 293, 636, 637, 638, 639, 640, 642, 32, 643, 295, 296, 297] (by decide +kernel) w h
set_option maxRecDepth 20000 in
theorem bv_in_r8 : ∀ w ∈ wsL_law0_r8, w ∈ lw_tbl := fun w h => bv_mem wsL_law0_r8 [298, 299, 300, 301, 302, 304, 6, 305, 308, 7, 309, 310, 312, 8, 313, 316, 9, 317, 318, 320, 10, 321, 324, 11] (by decide +kernel) w h
set_option maxRecDepth 20000 in
theorem bv_in_r9 : ∀ w ∈ wsL_law0_r9, w ∈ lw_tbl := fun w h => bv_mem wsL_law0_r9 [325, 326, 328, 12, 329, 330, 332, 13, 333, 334, 336, 14, 337, 340, 15, 341, 349, 350, 51, 351, 342, 344, 16, 345] (by decide +kernel) w h
set_option maxRecDepth 20000 in
theorem bv_in_r10 : ∀ w ∈ wsL_law0_r10, w ∈ lw_tbl := fun w h => bv_mem wsL_law0_r10 [346, 347, 348, 354, 17, 355, 357, 359, 18, 360, 363, 19, 364, 365, 367, 20, 368, 371, 21, 372, 644, 645, 646, 647] (by decide +kernel) w h
set_option maxRecDepth 20000 in
theorem bv_in_r11 : ∀ w ∈ wsL_law0_r11, w ∈ lw_tbl := fun w h => bv_mem wsL_law0_r11 [648, 650, 33, 651, 652, 654, 34, 655, 561, 656, 658, 35, 659, 660, 662, 36, 663, 664, 666, 37, 667, 668, 670, 38] (by decide +kernel) w h
set_option maxRecDepth 20000 in
theorem bv_in_r12 : ∀ w ∈ wsL_law0_r12, w ∈ lw_tbl := fun w h => bv_mem wsL_law0_r12 [671, 672, 674, 39, 675, 676, 678, 40, 679, 373, 374, 375, 376, 377, 378, 379, 382, 384, 22, 385, 390, 23, 391, 680] (by decide +kernel) w h
set_option maxRecDepth 20000 in
theorem bv_in_r13 : ∀ w ∈ wsL_law0_r13, w ∈ lw_tbl := fun w h => bv_mem wsL_law0_r13 [681, 682, 683, 392, 393, 394, 395, 396, 397, 398, 400, 402, 24, 403, 684, 685, 686, 687, 405, 406, 407, 408, 409, 410] (by decide +kernel) w h
set_option maxRecDepth 20000 in
theorem bv_in_r14 : ∀ w ∈ wsL_law0_r14, w ∈ lw_tbl := fun w h => bv_mem wsL_law0_r14 [411, 417, 25, 418, 688, 689, 690, 691, 419, 420, 421, 422, 423, 424, 425, 692, 693, 694, 695, 427, 428, 429, 430, 431] (by decide +kernel) w h
set_option maxRecDepth 20000 in
theorem bv_in_r15 : ∀ w ∈ wsL_law0_r15, w ∈ lw_tbl := fun w h => bv_mem wsL_law0_r15 [432, 433, 696, 697, 698, 699, 435, 436, 437, 438, 439, 440, 441, 445, 26, 446, 450, 27, 451, 700, 701, 702, 703, 452] (by decide +kernel) w h
set_option maxRecDepth 20000 in
theorem bv_in_r16 : ∀ w ∈ wsL_law0_r16, w ∈ lw_tbl := fun w h => bv_mem wsL_law0_r16 [453, 454, 455, 456, 457, 458, 459, 461, 52, 479, 28, 480, 484, 29, 485, 486, 489, 30, 490, 704, 705, 706, 707, 491] (by decide +kernel) w h
set_option maxRecDepth 20000 in
theorem bv_in_r17 : ∀ w ∈ wsL_law0_r17, w ∈ lw_tbl := fun w h => bv_mem wsL_law0_r17 [492, 493, 494, 495, 496, 497, 708, 709, 710, 711, 498, 499, 500, 501, 502, 503, 504, 712, 713, 714, 715, 505, 506, 507] (by decide +kernel) w h
set_option maxRecDepth 20000 in
theorem bv_in_r18 : ∀ w ∈ wsL_law0_r18, w ∈ lw_tbl := fun w h => bv_mem wsL_law0_r18 [508, 509, 510, 511, 716, 717, 718, 719, 512, 513, 514, 515, 516, 517, 518, 720, 721, 722, 723, 519, 520, 521, 522, 523] (by decide +kernel) w h
set_option maxRecDepth 20000 in
theorem bv_in_r19 : ∀ w ∈ wsL_law0_r19, w ∈ lw_tbl := fun w h => bv_mem wsL_law0_r19 [524, 525, 724, 725, 726, 727, 526, 527, 528, 529, 530, 531, 532, 728, 729, 730, 731, 533, 534, 535, 536, 537, 538, 539] (by decide +kernel) w h
set_option maxRecDepth 20000 in
theorem bv_in_r20 : ∀ w ∈ wsL_law0_r20, w ∈ lw_tbl := fun w h => bv_mem wsL_law0_r20 [732, 733, 734, 735] (by decide +kernel) w h
set_option maxRecDepth 20000 in
theorem bv_in_x0 : ∀ w ∈ wsX00, w ∈ lw_tbl := fun w h => bv_mem wsX00 [112, 114, 116, 118, 120, 122, 124, 126, 128, 130] (by decide +kernel) w h
set_option maxRecDepth 20000 in
theorem bv_in_x1 : ∀ w ∈ wsX10, w ∈ lw_tbl := fun w h => bv_mem wsX10 [75, 77, 79, 81, 83, 85] (by decide +kernel) w h
set_option maxRecDepth 20000 in
theorem bv_in_x2 : ∀ w ∈ wsX20, w ∈ lw_tbl := fun w h => bv_mem wsX20 [139, 141, 143, 145, 147, 149] (by decide +kernel) w h
set_option maxRecDepth 20000 in
theorem bv_in_x3 : ∀ w ∈ wsX30, w ∈ lw_tbl := fun w h => bv_mem wsX30 [567, 569, 571, 573, 575, 577, 579, 581, 583, 585, 587, 589, 591, 593, 595, 597, 599, 601, 603, 605, 607] (by decide +kernel) w h
theorem wsL_law_in0 : ∀ w ∈ wsL_law0, w ∈ lw_tbl := List.forall_mem_append.mpr ⟨List.forall_mem_append.mpr ⟨List.forall_mem_append.mpr ⟨List.forall_mem_append.mpr ⟨List.forall_mem_append.mpr ⟨List.forall_mem_append.mpr ⟨bv_in_r1, List.forall_mem_append.mpr ⟨bv_in_r2, List.forall_mem_append.mpr ⟨bv_in_r3, List.forall_mem_append.mpr ⟨bv_in_r4, List.forall_mem_append.mpr ⟨bv_in_r5, List.forall_mem_append.mpr ⟨bv_in_r6, List.forall_mem_append.mpr ⟨bv_in_r7, List.forall_mem_append.mpr ⟨bv_in_r8, List.forall_mem_append.mpr ⟨bv_in_r9, List.forall_mem_append.mpr ⟨bv_in_r10, List.forall_mem_append.mpr ⟨bv_in_r11, List.forall_mem_append.mpr ⟨bv_in_r12, List.forall_mem_append.mpr ⟨bv_in_r13, List.forall_mem_append.mpr ⟨bv_in_r14, List.forall_mem_append.mpr ⟨bv_in_r15, List.forall_mem_append.mpr ⟨bv_in_r16, List.forall_mem_append.mpr ⟨bv_in_r17, List.forall_mem_append.mpr ⟨bv_in_r18, List.forall_mem_append.mpr ⟨bv_in_r19, bv_in_r20⟩⟩⟩⟩⟩⟩⟩⟩⟩⟩⟩⟩⟩⟩⟩⟩⟩⟩⟩, bv_in_x2⟩, bv_in_x3⟩, bv_in_x1⟩, bv_in_x0⟩, fun _ h => absurd h List.not_mem_nil⟩
theorem wsL_law_x0 : ∀ w ∈ (vx_atS RX2 47 "java/lang/IllegalStateException" ["java/lang/RuntimeException", "java/lang/Exception"]).filter goodWord, w ∈ lw_tbl := by decide +kernel
theorem wsL_law_x1 : ∀ w ∈ (vx_atS RX2 98 "java/lang/IllegalArgumentException" ["java/lang/RuntimeException", "java/lang/Exception"]).filter goodWord, w ∈ lw_tbl := by decide +kernel
theorem wsL_law_x2 : ∀ w ∈ (vx_atS RX2 181 "java/lang/IndexOutOfBoundsException" ["java/lang/RuntimeException", "java/lang/Exception"]).filter goodWord, w ∈ lw_tbl := by decide +kernel
theorem wsL_law_in : ∀ w ∈ wsL_law, w ∈ lw_tbl := fun w h => (List.mem_append.mp h).elim (fun h => (List.mem_append.mp h).elim (fun h => (List.mem_append.mp h).elim (fun h => wsL_law_in0 w h) (fun h => wsL_law_x0 w h)) (fun h => wsL_law_x1 w h)) (fun h => wsL_law_x2 w h)
abbrev vwCl : List vw_C := [(RX0, TX0, 10), (RX1, TX1, 6), (RX2, TX2, 6), (RX3, TX3, 21)]
end
section
theorem inlX0 : ∀ w ∈ wsX00, w ∈ wsL_law := fun _ h => List.mem_append_left _ (List.mem_append_left _ (List.mem_append_left _ (List.mem_append_left _ (List.mem_append_right _ h))))
theorem inX0 : ∀ w ∈ wsX00, w ∈ lw_tbl := fun w h => wsL_law_in w (inlX0 w h)
theorem inlX1 : ∀ w ∈ wsX10, w ∈ wsL_law := fun _ h => List.mem_append_left _ (List.mem_append_left _ (List.mem_append_left _ (List.mem_append_left _ (List.mem_append_left _ (List.mem_append_right _ h)))))
theorem inX1 : ∀ w ∈ wsX10, w ∈ lw_tbl := fun w h => wsL_law_in w (inlX1 w h)
theorem inlX2 : ∀ w ∈ wsX20, w ∈ wsL_law := fun _ h => List.mem_append_left _ (List.mem_append_left _ (List.mem_append_left _ (List.mem_append_left _ (List.mem_append_left _ (List.mem_append_left _ (List.mem_append_left _ (List.mem_append_right _ h)))))))
theorem inX2 : ∀ w ∈ wsX20, w ∈ lw_tbl := fun w h => wsL_law_in w (inlX2 w h)
theorem inlX3 : ∀ w ∈ wsX30, w ∈ wsL_law := fun _ h => List.mem_append_left _ (List.mem_append_left _ (List.mem_append_left _ (List.mem_append_left _ (List.mem_append_left _ (List.mem_append_left _ (List.mem_append_right _ h))))))
theorem inX3 : ∀ w ∈ wsX30, w ∈ lw_tbl := fun w h => wsL_law_in w (inlX3 w h)
theorem inJ9 : ∀ w ∈ wsJ90, w ∈ lw_tbl := by decide +kernel
theorem inJ0 : ∀ w ∈ wsJ00, w ∈ lw_tbl := by decide +kernel
theorem dX0_init_0 : decode cX0_init 0 = .ok (.aload_n 0, 1) := by decide +kernel
theorem dX0_init_1 : decode cX0_init 1 = .ok (.invokespecial 3, 3) := by decide +kernel
theorem dX0_init_4 : decode cX0_init 4 = .ok (.aload_n 0, 1) := by decide +kernel
theorem dX0_init_5 : decode cX0_init 5 = .ok (.iconst 0, 1) := by decide +kernel
theorem dX0_init_6 : decode cX0_init 6 = .ok (.putfield 11, 3) := by decide +kernel
theorem dX0_init_9 : decode cX0_init 9 = .ok (.aload_n 0, 1) := by decide +kernel
theorem dX0_init_10 : decode cX0_init 10 = .ok (.iconst (-1), 1) := by decide +kernel
theorem dX0_init_11 : decode cX0_init 11 = .ok (.putfield 15, 3) := by decide +kernel
theorem dX0_init_14 : decode cX0_init 14 = .ok (.aload_n 0, 1) := by decide +kernel
theorem dX0_init_15 : decode cX0_init 15 = .ok (.iconst 0, 1) := by decide +kernel
theorem dX0_init_16 : decode cX0_init 16 = .ok (.putfield 18, 3) := by decide +kernel
theorem dX0_init_19 : decode cX0_init 19 = .ok (.aload_n 0, 1) := by decide +kernel
theorem dX0_init_20 : decode cX0_init 20 = .ok (.iconst 0, 1) := by decide +kernel
theorem dX0_init_21 : decode cX0_init 21 = .ok (.putfield 21, 3) := by decide +kernel
theorem dX0_init_24 : decode cX0_init 24 = .ok (.aload_n 0, 1) := by decide +kernel
theorem dX0_init_25 : decode cX0_init 25 = .ok (.iconst 0, 1) := by decide +kernel
theorem dX0_init_26 : decode cX0_init 26 = .ok (.putfield 24, 3) := by decide +kernel
theorem dX0_init_29 : decode cX0_init 29 = .ok (.aload_n 0, 1) := by decide +kernel
theorem dX0_init_30 : decode cX0_init 30 = .ok (.iconst 0, 1) := by decide +kernel
theorem dX0_init_31 : decode cX0_init 31 = .ok (.putfield 27, 3) := by decide +kernel
theorem dX0_init_34 : decode cX0_init 34 = .ok (.aload_n 0, 1) := by decide +kernel
theorem dX0_init_35 : decode cX0_init 35 = .ok (.iconst 0, 1) := by decide +kernel
theorem dX0_init_36 : decode cX0_init 36 = .ok (.putfield 31, 3) := by decide +kernel
theorem dX0_init_39 : decode cX0_init 39 = .ok (.aload_n 0, 1) := by decide +kernel
theorem dX0_init_40 : decode cX0_init 40 = .ok (.iconst 5, 1) := by decide +kernel
theorem dX0_init_41 : decode cX0_init 41 = .ok (.newarray .int, 2) := by decide +kernel
theorem dX0_init_43 : decode cX0_init 43 = .ok (.putfield 34, 3) := by decide +kernel
theorem dX0_init_46 : decode cX0_init 46 = .ok (.aload_n 0, 1) := by decide +kernel
theorem dX0_init_47 : decode cX0_init 47 = .ok (.iconst 5, 1) := by decide +kernel
theorem dX0_init_48 : decode cX0_init 48 = .ok (.newarray .int, 2) := by decide +kernel
theorem dX0_init_50 : decode cX0_init 50 = .ok (.putfield 38, 3) := by decide +kernel
theorem dX0_init_53 : decode cX0_init 53 = .ok (.aload_n 0, 1) := by decide +kernel
theorem dX0_init_54 : decode cX0_init 54 = .ok (.iconst 5, 1) := by decide +kernel
theorem dX0_init_55 : decode cX0_init 55 = .ok (.newarray .int, 2) := by decide +kernel
theorem dX0_init_57 : decode cX0_init 57 = .ok (.putfield 41, 3) := by decide +kernel
theorem dX0_init_60 : decode cX0_init 60 = .ok (.return_, 1) := by decide +kernel
theorem dX0_isFree_0 : decode cX0_isFree 0 = .ok (.aload_n 0, 1) := by decide +kernel
theorem dX0_isFree_1 : decode cX0_isFree 1 = .ok (.getfield 11, 3) := by decide +kernel
theorem dX0_isFree_4 : decode cX0_isFree 4 = .ok (.ifCond .ne 7, 3) := by decide +kernel
theorem dX0_isFree_7 : decode cX0_isFree 7 = .ok (.iconst 1, 1) := by decide +kernel
theorem dX0_isFree_8 : decode cX0_isFree 8 = .ok (.goto 4, 3) := by decide +kernel
theorem dX0_isFree_11 : decode cX0_isFree 11 = .ok (.iconst 0, 1) := by decide +kernel
theorem dX0_isFree_12 : decode cX0_isFree 12 = .ok (.ireturn, 1) := by decide +kernel
theorem dX0_isRented_0 : decode cX0_isRented 0 = .ok (.aload_n 0, 1) := by decide +kernel
theorem dX0_isRented_1 : decode cX0_isRented 1 = .ok (.getfield 11, 3) := by decide +kernel
theorem dX0_isRented_4 : decode cX0_isRented 4 = .ok (.iconst 1, 1) := by decide +kernel
theorem dX0_isRented_5 : decode cX0_isRented 5 = .ok (.if_icmp .ne 7, 3) := by decide +kernel
theorem dX0_isRented_8 : decode cX0_isRented 8 = .ok (.iconst 1, 1) := by decide +kernel
theorem dX0_isRented_9 : decode cX0_isRented 9 = .ok (.goto 4, 3) := by decide +kernel
theorem dX0_isRented_12 : decode cX0_isRented 12 = .ok (.iconst 0, 1) := by decide +kernel
theorem dX0_isRented_13 : decode cX0_isRented 13 = .ok (.ireturn, 1) := by decide +kernel
theorem dX0_startRent_0 : decode cX0_startRent 0 = .ok (.aload_n 0, 1) := by decide +kernel
theorem dX0_startRent_1 : decode cX0_startRent 1 = .ok (.iconst 1, 1) := by decide +kernel
theorem dX0_startRent_2 : decode cX0_startRent 2 = .ok (.putfield 11, 3) := by decide +kernel
theorem dX0_startRent_5 : decode cX0_startRent 5 = .ok (.aload_n 0, 1) := by decide +kernel
theorem dX0_startRent_6 : decode cX0_startRent 6 = .ok (.iload_n 1, 1) := by decide +kernel
theorem dX0_startRent_7 : decode cX0_startRent 7 = .ok (.putfield 15, 3) := by decide +kernel
theorem dX0_startRent_10 : decode cX0_startRent 10 = .ok (.aload_n 0, 1) := by decide +kernel
theorem dX0_startRent_11 : decode cX0_startRent 11 = .ok (.iload_n 2, 1) := by decide +kernel
theorem dX0_startRent_12 : decode cX0_startRent 12 = .ok (.putfield 18, 3) := by decide +kernel
theorem dX0_startRent_15 : decode cX0_startRent 15 = .ok (.aload_n 0, 1) := by decide +kernel
theorem dX0_startRent_16 : decode cX0_startRent 16 = .ok (.iconst 0, 1) := by decide +kernel
theorem dX0_startRent_17 : decode cX0_startRent 17 = .ok (.putfield 24, 3) := by decide +kernel
theorem dX0_startRent_20 : decode cX0_startRent 20 = .ok (.aload_n 0, 1) := by decide +kernel
theorem dX0_startRent_21 : decode cX0_startRent 21 = .ok (.iconst 0, 1) := by decide +kernel
theorem dX0_startRent_22 : decode cX0_startRent 22 = .ok (.putfield 27, 3) := by decide +kernel
theorem dX0_startRent_25 : decode cX0_startRent 25 = .ok (.return_, 1) := by decide +kernel
set_option maxRecDepth 20000 in
theorem ggX0_breakOpen_X0_overdueOn : GoodIn wsX0_breakOpen wsX0_overdueOn := goodIn_r _ [7, 8, 9, 10, 11, 12, 13, 14, 15, 16, 17, 18, 19, 20, 21, 22] (by decide +kernel) (by decide +kernel)
set_option maxRecDepth 20000 in
theorem gX0_breakOpen_X0_overdueOn : GoodIn wsX0_breakOpen (wsV RX0 44 RX0 yX0_overdueOn wsX0_overdueOn) := goodIn_app (goodIn_of _ (by decide +kernel)) ggX0_breakOpen_X0_overdueOn
theorem dX0_breakOpen_0 : decode cX0_breakOpen 0 = .ok (.aload_n 0, 1) := by decide +kernel
theorem dX0_breakOpen_1 : decode cX0_breakOpen 1 = .ok (.iconst 2, 1) := by decide +kernel
theorem dX0_breakOpen_2 : decode cX0_breakOpen 2 = .ok (.putfield 11, 3) := by decide +kernel
theorem dX0_breakOpen_5 : decode cX0_breakOpen 5 = .ok (.aload_n 0, 1) := by decide +kernel
theorem dX0_breakOpen_6 : decode cX0_breakOpen 6 = .ok (.aload_n 0, 1) := by decide +kernel
theorem dX0_breakOpen_7 : decode cX0_breakOpen 7 = .ok (.iload_n 1, 1) := by decide +kernel
theorem dX0_breakOpen_8 : decode cX0_breakOpen 8 = .ok (.invokevirtual 44, 3) := by decide +kernel
theorem dX0_breakOpen_11 : decode cX0_breakOpen 11 = .ok (.putfield 21, 3) := by decide +kernel
theorem dX0_breakOpen_14 : decode cX0_breakOpen 14 = .ok (.return_, 1) := by decide +kernel
set_option maxRecDepth 20000 in
theorem ggX0_empty_X0_endProxies : GoodIn wsX0_empty wsX0_endProxies := goodIn_r _ [7, 8, 9, 10, 11, 12, 13, 14, 15, 16, 17, 18] (by decide +kernel) (by decide +kernel)
set_option maxRecDepth 20000 in
theorem gX0_empty_X0_endProxies : GoodIn wsX0_empty (wsV RX0 48 RX0 yX0_endProxies wsX0_endProxies) := goodIn_app (goodIn_of _ (by decide +kernel)) ggX0_empty_X0_endProxies
theorem dX0_empty_0 : decode cX0_empty 0 = .ok (.aload_n 0, 1) := by decide +kernel
theorem dX0_empty_1 : decode cX0_empty 1 = .ok (.iconst 0, 1) := by decide +kernel
theorem dX0_empty_2 : decode cX0_empty 2 = .ok (.putfield 11, 3) := by decide +kernel
theorem dX0_empty_5 : decode cX0_empty 5 = .ok (.aload_n 0, 1) := by decide +kernel
theorem dX0_empty_6 : decode cX0_empty 6 = .ok (.iconst (-1), 1) := by decide +kernel
theorem dX0_empty_7 : decode cX0_empty 7 = .ok (.putfield 15, 3) := by decide +kernel
theorem dX0_empty_10 : decode cX0_empty 10 = .ok (.aload_n 0, 1) := by decide +kernel
theorem dX0_empty_11 : decode cX0_empty 11 = .ok (.invokevirtual 48, 3) := by decide +kernel
theorem dX0_empty_14 : decode cX0_empty 14 = .ok (.return_, 1) := by decide +kernel
theorem dX0_overdueOn_0 : decode cX0_overdueOn 0 = .ok (.iconst 0, 1) := by decide +kernel
theorem dX0_overdueOn_1 : decode cX0_overdueOn 1 = .ok (.iload_n 1, 1) := by decide +kernel
theorem dX0_overdueOn_2 : decode cX0_overdueOn 2 = .ok (.aload_n 0, 1) := by decide +kernel
theorem dX0_overdueOn_3 : decode cX0_overdueOn 3 = .ok (.getfield 18, 3) := by decide +kernel
theorem dX0_overdueOn_6 : decode cX0_overdueOn 6 = .ok (.isub, 1) := by decide +kernel
theorem dX0_overdueOn_7 : decode cX0_overdueOn 7 = .ok (.invokestatic 51, 3) := by decide +kernel
theorem dX0_overdueOn_10 : decode cX0_overdueOn 10 = .ok (.ireturn, 1) := by decide +kernel
set_option maxRecDepth 20000 in
theorem ggX0_noticesOn_X0_overdueOn : GoodIn wsX0_noticesOn wsX0_overdueOn := goodIn_r _ [9, 10, 11, 12, 3, 13, 14, 15, 16, 17, 18, 19, 20, 21, 22, 23] (by decide +kernel) (by decide +kernel)
set_option maxRecDepth 20000 in
theorem gX0_noticesOn_X0_overdueOn : GoodIn wsX0_noticesOn (wsV RX0 44 RX0 yX0_overdueOn wsX0_overdueOn) := goodIn_app (goodIn_of _ (by decide +kernel)) ggX0_noticesOn_X0_overdueOn
theorem dX0_noticesOn_0 : decode cX0_noticesOn 0 = .ok (.iconst 3, 1) := by decide +kernel
theorem dX0_noticesOn_1 : decode cX0_noticesOn 1 = .ok (.aload_n 0, 1) := by decide +kernel
theorem dX0_noticesOn_2 : decode cX0_noticesOn 2 = .ok (.iload_n 1, 1) := by decide +kernel
theorem dX0_noticesOn_3 : decode cX0_noticesOn 3 = .ok (.invokevirtual 44, 3) := by decide +kernel
theorem dX0_noticesOn_6 : decode cX0_noticesOn 6 = .ok (.bipush 30, 2) := by decide +kernel
theorem dX0_noticesOn_8 : decode cX0_noticesOn 8 = .ok (.idiv, 1) := by decide +kernel
theorem dX0_noticesOn_9 : decode cX0_noticesOn 9 = .ok (.invokestatic 57, 3) := by decide +kernel
theorem dX0_noticesOn_12 : decode cX0_noticesOn 12 = .ok (.ireturn, 1) := by decide +kernel
theorem dX0_addProxy_0 : decode cX0_addProxy 0 = .ok (.aload_n 0, 1) := by decide +kernel
theorem dX0_addProxy_1 : decode cX0_addProxy 1 = .ok (.getfield 31, 3) := by decide +kernel
theorem dX0_addProxy_4 : decode cX0_addProxy 4 = .ok (.ifCond .lt 11, 3) := by decide +kernel
theorem dX0_addProxy_7 : decode cX0_addProxy 7 = .ok (.aload_n 0, 1) := by decide +kernel
theorem dX0_addProxy_8 : decode cX0_addProxy 8 = .ok (.getfield 31, 3) := by decide +kernel
theorem dX0_addProxy_11 : decode cX0_addProxy 11 = .ok (.iconst 5, 1) := by decide +kernel
theorem dX0_addProxy_12 : decode cX0_addProxy 12 = .ok (.if_icmp .lt 4, 3) := by decide +kernel
theorem dX0_addProxy_15 : decode cX0_addProxy 15 = .ok (.return_, 1) := by decide +kernel
theorem dX0_addProxy_16 : decode cX0_addProxy 16 = .ok (.aload_n 0, 1) := by decide +kernel
theorem dX0_addProxy_17 : decode cX0_addProxy 17 = .ok (.getfield 34, 3) := by decide +kernel
theorem dX0_addProxy_20 : decode cX0_addProxy 20 = .ok (.aload_n 0, 1) := by decide +kernel
theorem dX0_addProxy_21 : decode cX0_addProxy 21 = .ok (.getfield 31, 3) := by decide +kernel
theorem dX0_addProxy_24 : decode cX0_addProxy 24 = .ok (.iload_n 1, 1) := by decide +kernel
theorem dX0_addProxy_25 : decode cX0_addProxy 25 = .ok (.iastore, 1) := by decide +kernel
theorem dX0_addProxy_26 : decode cX0_addProxy 26 = .ok (.aload_n 0, 1) := by decide +kernel
theorem dX0_addProxy_27 : decode cX0_addProxy 27 = .ok (.getfield 38, 3) := by decide +kernel
theorem dX0_addProxy_30 : decode cX0_addProxy 30 = .ok (.aload_n 0, 1) := by decide +kernel
theorem dX0_addProxy_31 : decode cX0_addProxy 31 = .ok (.getfield 31, 3) := by decide +kernel
theorem dX0_addProxy_34 : decode cX0_addProxy 34 = .ok (.iload_n 2, 1) := by decide +kernel
theorem dX0_addProxy_35 : decode cX0_addProxy 35 = .ok (.iastore, 1) := by decide +kernel
theorem dX0_addProxy_36 : decode cX0_addProxy 36 = .ok (.aload_n 0, 1) := by decide +kernel
theorem dX0_addProxy_37 : decode cX0_addProxy 37 = .ok (.getfield 41, 3) := by decide +kernel
theorem dX0_addProxy_40 : decode cX0_addProxy 40 = .ok (.aload_n 0, 1) := by decide +kernel
theorem dX0_addProxy_41 : decode cX0_addProxy 41 = .ok (.getfield 31, 3) := by decide +kernel
theorem dX0_addProxy_44 : decode cX0_addProxy 44 = .ok (.iload_n 3, 1) := by decide +kernel
theorem dX0_addProxy_45 : decode cX0_addProxy 45 = .ok (.iastore, 1) := by decide +kernel
theorem dX0_addProxy_46 : decode cX0_addProxy 46 = .ok (.aload_n 0, 1) := by decide +kernel
theorem dX0_addProxy_47 : decode cX0_addProxy 47 = .ok (.dup, 1) := by decide +kernel
theorem dX0_addProxy_48 : decode cX0_addProxy 48 = .ok (.getfield 31, 3) := by decide +kernel
theorem dX0_addProxy_51 : decode cX0_addProxy 51 = .ok (.iconst 1, 1) := by decide +kernel
theorem dX0_addProxy_52 : decode cX0_addProxy 52 = .ok (.iadd, 1) := by decide +kernel
theorem dX0_addProxy_53 : decode cX0_addProxy 53 = .ok (.putfield 31, 3) := by decide +kernel
theorem dX0_addProxy_56 : decode cX0_addProxy 56 = .ok (.return_, 1) := by decide +kernel
theorem dX0_endProxies_0 : decode cX0_endProxies 0 = .ok (.aload_n 0, 1) := by decide +kernel
theorem dX0_endProxies_1 : decode cX0_endProxies 1 = .ok (.iconst 0, 1) := by decide +kernel
theorem dX0_endProxies_2 : decode cX0_endProxies 2 = .ok (.putfield 31, 3) := by decide +kernel
theorem dX0_endProxies_5 : decode cX0_endProxies 5 = .ok (.return_, 1) := by decide +kernel
theorem dX0_hasProxyOn_0 : decode cX0_hasProxyOn 0 = .ok (.iconst 0, 1) := by decide +kernel
theorem dX0_hasProxyOn_1 : decode cX0_hasProxyOn 1 = .ok (.istore_n 3, 1) := by decide +kernel
theorem dX0_hasProxyOn_2 : decode cX0_hasProxyOn 2 = .ok (.iload_n 3, 1) := by decide +kernel
theorem dX0_hasProxyOn_3 : decode cX0_hasProxyOn 3 = .ok (.aload_n 0, 1) := by decide +kernel
theorem dX0_hasProxyOn_4 : decode cX0_hasProxyOn 4 = .ok (.getfield 31, 3) := by decide +kernel
theorem dX0_hasProxyOn_7 : decode cX0_hasProxyOn 7 = .ok (.if_icmp .ge 46, 3) := by decide +kernel
theorem dX0_hasProxyOn_10 : decode cX0_hasProxyOn 10 = .ok (.iload_n 3, 1) := by decide +kernel
theorem dX0_hasProxyOn_11 : decode cX0_hasProxyOn 11 = .ok (.iconst 5, 1) := by decide +kernel
theorem dX0_hasProxyOn_12 : decode cX0_hasProxyOn 12 = .ok (.if_icmp .ge 41, 3) := by decide +kernel
theorem dX0_hasProxyOn_15 : decode cX0_hasProxyOn 15 = .ok (.aload_n 0, 1) := by decide +kernel
theorem dX0_hasProxyOn_16 : decode cX0_hasProxyOn 16 = .ok (.getfield 34, 3) := by decide +kernel
theorem dX0_hasProxyOn_19 : decode cX0_hasProxyOn 19 = .ok (.iload_n 3, 1) := by decide +kernel
theorem dX0_hasProxyOn_20 : decode cX0_hasProxyOn 20 = .ok (.iaload, 1) := by decide +kernel
theorem dX0_hasProxyOn_21 : decode cX0_hasProxyOn 21 = .ok (.iload_n 2, 1) := by decide +kernel
theorem dX0_hasProxyOn_22 : decode cX0_hasProxyOn 22 = .ok (.if_icmp .ne 25, 3) := by decide +kernel
theorem dX0_hasProxyOn_25 : decode cX0_hasProxyOn 25 = .ok (.aload_n 0, 1) := by decide +kernel
theorem dX0_hasProxyOn_26 : decode cX0_hasProxyOn 26 = .ok (.getfield 38, 3) := by decide +kernel
theorem dX0_hasProxyOn_29 : decode cX0_hasProxyOn 29 = .ok (.iload_n 3, 1) := by decide +kernel
theorem dX0_hasProxyOn_30 : decode cX0_hasProxyOn 30 = .ok (.iaload, 1) := by decide +kernel
theorem dX0_hasProxyOn_31 : decode cX0_hasProxyOn 31 = .ok (.iload_n 1, 1) := by decide +kernel
theorem dX0_hasProxyOn_32 : decode cX0_hasProxyOn 32 = .ok (.if_icmp .gt 15, 3) := by decide +kernel
theorem dX0_hasProxyOn_35 : decode cX0_hasProxyOn 35 = .ok (.iload_n 1, 1) := by decide +kernel
theorem dX0_hasProxyOn_36 : decode cX0_hasProxyOn 36 = .ok (.aload_n 0, 1) := by decide +kernel
theorem dX0_hasProxyOn_37 : decode cX0_hasProxyOn 37 = .ok (.getfield 41, 3) := by decide +kernel
theorem dX0_hasProxyOn_40 : decode cX0_hasProxyOn 40 = .ok (.iload_n 3, 1) := by decide +kernel
theorem dX0_hasProxyOn_41 : decode cX0_hasProxyOn 41 = .ok (.iaload, 1) := by decide +kernel
theorem dX0_hasProxyOn_42 : decode cX0_hasProxyOn 42 = .ok (.if_icmp .gt 5, 3) := by decide +kernel
theorem dX0_hasProxyOn_45 : decode cX0_hasProxyOn 45 = .ok (.iconst 1, 1) := by decide +kernel
theorem dX0_hasProxyOn_46 : decode cX0_hasProxyOn 46 = .ok (.ireturn, 1) := by decide +kernel
theorem dX0_hasProxyOn_47 : decode cX0_hasProxyOn 47 = .ok (.iinc 3 1, 3) := by decide +kernel
theorem dX0_hasProxyOn_50 : decode cX0_hasProxyOn 50 = .ok (.goto (-48), 3) := by decide +kernel
theorem dX0_hasProxyOn_53 : decode cX0_hasProxyOn 53 = .ok (.iconst 0, 1) := by decide +kernel
theorem dX0_hasProxyOn_54 : decode cX0_hasProxyOn 54 = .ok (.ireturn, 1) := by decide +kernel
theorem dX1_init_0 : decode cX1_init 0 = .ok (.aload_n 0, 1) := by decide +kernel
theorem dX1_init_1 : decode cX1_init 1 = .ok (.invokespecial 3, 3) := by decide +kernel
theorem dX1_init_4 : decode cX1_init 4 = .ok (.aload_n 0, 1) := by decide +kernel
theorem dX1_init_5 : decode cX1_init 5 = .ok (.iconst 0, 1) := by decide +kernel
theorem dX1_init_6 : decode cX1_init 6 = .ok (.putfield 9, 3) := by decide +kernel
theorem dX1_init_9 : decode cX1_init 9 = .ok (.aload_n 0, 1) := by decide +kernel
theorem dX1_init_10 : decode cX1_init 10 = .ok (.bipush 30, 2) := by decide +kernel
theorem dX1_init_12 : decode cX1_init 12 = .ok (.newarray .int, 2) := by decide +kernel
theorem dX1_init_14 : decode cX1_init 14 = .ok (.putfield 15, 3) := by decide +kernel
theorem dX1_init_17 : decode cX1_init 17 = .ok (.aload_n 0, 1) := by decide +kernel
theorem dX1_init_18 : decode cX1_init 18 = .ok (.bipush 30, 2) := by decide +kernel
theorem dX1_init_20 : decode cX1_init 20 = .ok (.newarray .int, 2) := by decide +kernel
theorem dX1_init_22 : decode cX1_init 22 = .ok (.putfield 19, 3) := by decide +kernel
theorem dX1_init_25 : decode cX1_init 25 = .ok (.aload_n 0, 1) := by decide +kernel
theorem dX1_init_26 : decode cX1_init 26 = .ok (.bipush 30, 2) := by decide +kernel
theorem dX1_init_28 : decode cX1_init 28 = .ok (.newarray .int, 2) := by decide +kernel
theorem dX1_init_30 : decode cX1_init 30 = .ok (.putfield 22, 3) := by decide +kernel
theorem dX1_init_33 : decode cX1_init 33 = .ok (.aload_n 0, 1) := by decide +kernel
theorem dX1_init_34 : decode cX1_init 34 = .ok (.bipush 30, 2) := by decide +kernel
theorem dX1_init_36 : decode cX1_init 36 = .ok (.newarray .int, 2) := by decide +kernel
theorem dX1_init_38 : decode cX1_init 38 = .ok (.putfield 25, 3) := by decide +kernel
theorem dX1_init_41 : decode cX1_init 41 = .ok (.aload_n 0, 1) := by decide +kernel
theorem dX1_init_42 : decode cX1_init 42 = .ok (.bipush 30, 2) := by decide +kernel
theorem dX1_init_44 : decode cX1_init 44 = .ok (.newarray .boolean, 2) := by decide +kernel
theorem dX1_init_46 : decode cX1_init 46 = .ok (.putfield 28, 3) := by decide +kernel
theorem dX1_init_49 : decode cX1_init 49 = .ok (.return_, 1) := by decide +kernel
theorem dX1_isFull_0 : decode cX1_isFull 0 = .ok (.aload_n 0, 1) := by decide +kernel
theorem dX1_isFull_1 : decode cX1_isFull 1 = .ok (.getfield 9, 3) := by decide +kernel
theorem dX1_isFull_4 : decode cX1_isFull 4 = .ok (.bipush 30, 2) := by decide +kernel
theorem dX1_isFull_6 : decode cX1_isFull 6 = .ok (.if_icmp .lt 7, 3) := by decide +kernel
theorem dX1_isFull_9 : decode cX1_isFull 9 = .ok (.iconst 1, 1) := by decide +kernel
theorem dX1_isFull_10 : decode cX1_isFull 10 = .ok (.goto 4, 3) := by decide +kernel
theorem dX1_isFull_13 : decode cX1_isFull 13 = .ok (.iconst 0, 1) := by decide +kernel
theorem dX1_isFull_14 : decode cX1_isFull 14 = .ok (.ireturn, 1) := by decide +kernel
theorem dX1_has_0 : decode cX1_has 0 = .ok (.iload_n 1, 1) := by decide +kernel
theorem dX1_has_1 : decode cX1_has 1 = .ok (.ifCond .lt 21, 3) := by decide +kernel
theorem dX1_has_4 : decode cX1_has 4 = .ok (.iload_n 1, 1) := by decide +kernel
theorem dX1_has_5 : decode cX1_has 5 = .ok (.aload_n 0, 1) := by decide +kernel
theorem dX1_has_6 : decode cX1_has 6 = .ok (.getfield 9, 3) := by decide +kernel
theorem dX1_has_9 : decode cX1_has 9 = .ok (.if_icmp .ge 13, 3) := by decide +kernel
theorem dX1_has_12 : decode cX1_has 12 = .ok (.iload_n 1, 1) := by decide +kernel
theorem dX1_has_13 : decode cX1_has 13 = .ok (.bipush 30, 2) := by decide +kernel
theorem dX1_has_15 : decode cX1_has 15 = .ok (.if_icmp .ge 7, 3) := by decide +kernel
theorem dX1_has_18 : decode cX1_has 18 = .ok (.iconst 1, 1) := by decide +kernel
theorem dX1_has_19 : decode cX1_has 19 = .ok (.goto 4, 3) := by decide +kernel
theorem dX1_has_22 : decode cX1_has 22 = .ok (.iconst 0, 1) := by decide +kernel
theorem dX1_has_23 : decode cX1_has 23 = .ok (.ireturn, 1) := by decide +kernel
theorem dX1_add_0 : decode cX1_add 0 = .ok (.aload_n 0, 1) := by decide +kernel
theorem dX1_add_1 : decode cX1_add 1 = .ok (.getfield 9, 3) := by decide +kernel
theorem dX1_add_4 : decode cX1_add 4 = .ok (.ifCond .lt 12, 3) := by decide +kernel
theorem dX1_add_7 : decode cX1_add 7 = .ok (.aload_n 0, 1) := by decide +kernel
theorem dX1_add_8 : decode cX1_add 8 = .ok (.getfield 9, 3) := by decide +kernel
theorem dX1_add_11 : decode cX1_add 11 = .ok (.bipush 30, 2) := by decide +kernel
theorem dX1_add_13 : decode cX1_add 13 = .ok (.if_icmp .lt 5, 3) := by decide +kernel
theorem dX1_add_16 : decode cX1_add 16 = .ok (.iconst (-1), 1) := by decide +kernel
theorem dX1_add_17 : decode cX1_add 17 = .ok (.ireturn, 1) := by decide +kernel
theorem dX1_add_18 : decode cX1_add 18 = .ok (.aload_n 0, 1) := by decide +kernel
theorem dX1_add_19 : decode cX1_add 19 = .ok (.getfield 9, 3) := by decide +kernel
theorem dX1_add_22 : decode cX1_add 22 = .ok (.istore 5, 2) := by decide +kernel
theorem dX1_add_24 : decode cX1_add 24 = .ok (.aload_n 0, 1) := by decide +kernel
theorem dX1_add_25 : decode cX1_add 25 = .ok (.getfield 15, 3) := by decide +kernel
theorem dX1_add_28 : decode cX1_add 28 = .ok (.iload 5, 2) := by decide +kernel
theorem dX1_add_30 : decode cX1_add 30 = .ok (.iload_n 1, 1) := by decide +kernel
theorem dX1_add_31 : decode cX1_add 31 = .ok (.iastore, 1) := by decide +kernel
theorem dX1_add_32 : decode cX1_add 32 = .ok (.aload_n 0, 1) := by decide +kernel
theorem dX1_add_33 : decode cX1_add 33 = .ok (.getfield 19, 3) := by decide +kernel
theorem dX1_add_36 : decode cX1_add 36 = .ok (.iload 5, 2) := by decide +kernel
theorem dX1_add_38 : decode cX1_add 38 = .ok (.iload_n 2, 1) := by decide +kernel
theorem dX1_add_39 : decode cX1_add 39 = .ok (.iastore, 1) := by decide +kernel
theorem dX1_add_40 : decode cX1_add 40 = .ok (.aload_n 0, 1) := by decide +kernel
theorem dX1_add_41 : decode cX1_add 41 = .ok (.getfield 22, 3) := by decide +kernel
theorem dX1_add_44 : decode cX1_add 44 = .ok (.iload 5, 2) := by decide +kernel
theorem dX1_add_46 : decode cX1_add 46 = .ok (.iload_n 3, 1) := by decide +kernel
theorem dX1_add_47 : decode cX1_add 47 = .ok (.iastore, 1) := by decide +kernel
theorem dX1_add_48 : decode cX1_add 48 = .ok (.aload_n 0, 1) := by decide +kernel
theorem dX1_add_49 : decode cX1_add 49 = .ok (.getfield 25, 3) := by decide +kernel
theorem dX1_add_52 : decode cX1_add 52 = .ok (.iload 5, 2) := by decide +kernel
theorem dX1_add_54 : decode cX1_add 54 = .ok (.iload 4, 2) := by decide +kernel
theorem dX1_add_56 : decode cX1_add 56 = .ok (.iastore, 1) := by decide +kernel
theorem dX1_add_57 : decode cX1_add 57 = .ok (.aload_n 0, 1) := by decide +kernel
theorem dX1_add_58 : decode cX1_add 58 = .ok (.getfield 28, 3) := by decide +kernel
theorem dX1_add_61 : decode cX1_add 61 = .ok (.iload 5, 2) := by decide +kernel
theorem dX1_add_63 : decode cX1_add 63 = .ok (.iconst 1, 1) := by decide +kernel
theorem dX1_add_64 : decode cX1_add 64 = .ok (.bastore, 1) := by decide +kernel
theorem dX1_add_65 : decode cX1_add 65 = .ok (.aload_n 0, 1) := by decide +kernel
theorem dX1_add_66 : decode cX1_add 66 = .ok (.dup, 1) := by decide +kernel
theorem dX1_add_67 : decode cX1_add 67 = .ok (.getfield 9, 3) := by decide +kernel
theorem dX1_add_70 : decode cX1_add 70 = .ok (.iconst 1, 1) := by decide +kernel
theorem dX1_add_71 : decode cX1_add 71 = .ok (.iadd, 1) := by decide +kernel
theorem dX1_add_72 : decode cX1_add 72 = .ok (.putfield 9, 3) := by decide +kernel
theorem dX1_add_75 : decode cX1_add 75 = .ok (.iload 5, 2) := by decide +kernel
theorem dX1_add_77 : decode cX1_add 77 = .ok (.ireturn, 1) := by decide +kernel
set_option maxRecDepth 20000 in
theorem ggX1_isInForce_X1_has : GoodIn wsX1_isInForce wsX1_has := goodIn_r _ [6, 7, 8, 9, 10, 11, 12, 13] (by decide +kernel) (by decide +kernel)
set_option maxRecDepth 20000 in
theorem gX1_isInForce_X1_has : GoodIn wsX1_isInForce (wsV RX1 32 RX1 yX1_has wsX1_has) := goodIn_app (goodIn_of _ (by decide +kernel)) ggX1_isInForce_X1_has
theorem dX1_isInForce_0 : decode cX1_isInForce 0 = .ok (.aload_n 0, 1) := by decide +kernel
theorem dX1_isInForce_1 : decode cX1_isInForce 1 = .ok (.iload_n 1, 1) := by decide +kernel
theorem dX1_isInForce_2 : decode cX1_isInForce 2 = .ok (.invokevirtual 32, 3) := by decide +kernel
theorem dX1_isInForce_5 : decode cX1_isInForce 5 = .ok (.ifCond .eq 16, 3) := by decide +kernel
theorem dX1_isInForce_8 : decode cX1_isInForce 8 = .ok (.aload_n 0, 1) := by decide +kernel
theorem dX1_isInForce_9 : decode cX1_isInForce 9 = .ok (.getfield 28, 3) := by decide +kernel
theorem dX1_isInForce_12 : decode cX1_isInForce 12 = .ok (.iload_n 1, 1) := by decide +kernel
theorem dX1_isInForce_13 : decode cX1_isInForce 13 = .ok (.baload, 1) := by decide +kernel
theorem dX1_isInForce_14 : decode cX1_isInForce 14 = .ok (.ifCond .eq 7, 3) := by decide +kernel
theorem dX1_isInForce_17 : decode cX1_isInForce 17 = .ok (.iconst 1, 1) := by decide +kernel
theorem dX1_isInForce_18 : decode cX1_isInForce 18 = .ok (.goto 4, 3) := by decide +kernel
theorem dX1_isInForce_21 : decode cX1_isInForce 21 = .ok (.iconst 0, 1) := by decide +kernel
theorem dX1_isInForce_22 : decode cX1_isInForce 22 = .ok (.ireturn, 1) := by decide +kernel
set_option maxRecDepth 20000 in
theorem ggX1_isBinding_X1_has : GoodIn wsX1_isBinding wsX1_has := goodIn_r _ [6, 7, 14, 15, 16, 17, 18, 19] (by decide +kernel) (by decide +kernel)
set_option maxRecDepth 20000 in
theorem gX1_isBinding_X1_has : GoodIn wsX1_isBinding (wsV RX1 32 RX1 yX1_has wsX1_has) := goodIn_app (goodIn_of _ (by decide +kernel)) ggX1_isBinding_X1_has
set_option maxRecDepth 20000 in
theorem ggX1_isBinding_X1_bindingOn : GoodIn wsX1_isBinding wsX1_bindingOn := goodIn_r _ [11, 7, 12, 1, 13, 14, 15, 16, 17, 18, 19] (by decide +kernel) (by decide +kernel)
set_option maxRecDepth 20000 in
theorem gX1_isBinding_X1_bindingOn : GoodIn wsX1_isBinding (wsV RX1 36 RX1 yX1_bindingOn wsX1_bindingOn) := goodIn_app (goodIn_of _ (by decide +kernel)) ggX1_isBinding_X1_bindingOn
theorem dX1_isBinding_0 : decode cX1_isBinding 0 = .ok (.aload_n 0, 1) := by decide +kernel
theorem dX1_isBinding_1 : decode cX1_isBinding 1 = .ok (.iload_n 1, 1) := by decide +kernel
theorem dX1_isBinding_2 : decode cX1_isBinding 2 = .ok (.invokevirtual 32, 3) := by decide +kernel
theorem dX1_isBinding_5 : decode cX1_isBinding 5 = .ok (.ifCond .eq 21, 3) := by decide +kernel
theorem dX1_isBinding_8 : decode cX1_isBinding 8 = .ok (.aload_n 0, 1) := by decide +kernel
theorem dX1_isBinding_9 : decode cX1_isBinding 9 = .ok (.aload_n 0, 1) := by decide +kernel
theorem dX1_isBinding_10 : decode cX1_isBinding 10 = .ok (.getfield 15, 3) := by decide +kernel
theorem dX1_isBinding_13 : decode cX1_isBinding 13 = .ok (.iload_n 1, 1) := by decide +kernel
theorem dX1_isBinding_14 : decode cX1_isBinding 14 = .ok (.iaload, 1) := by decide +kernel
theorem dX1_isBinding_15 : decode cX1_isBinding 15 = .ok (.invokevirtual 36, 3) := by decide +kernel
theorem dX1_isBinding_18 : decode cX1_isBinding 18 = .ok (.iload_n 1, 1) := by decide +kernel
theorem dX1_isBinding_19 : decode cX1_isBinding 19 = .ok (.if_icmp .ne 7, 3) := by decide +kernel
theorem dX1_isBinding_22 : decode cX1_isBinding 22 = .ok (.iconst 1, 1) := by decide +kernel
theorem dX1_isBinding_23 : decode cX1_isBinding 23 = .ok (.goto 4, 3) := by decide +kernel
theorem dX1_isBinding_26 : decode cX1_isBinding 26 = .ok (.iconst 0, 1) := by decide +kernel
theorem dX1_isBinding_27 : decode cX1_isBinding 27 = .ok (.ireturn, 1) := by decide +kernel
set_option maxRecDepth 20000 in
theorem ggX1_end_X1_has : GoodIn wsX1_end wsX1_has := goodIn_r _ [6, 7, 8, 9, 10, 11, 12, 13] (by decide +kernel) (by decide +kernel)
set_option maxRecDepth 20000 in
theorem gX1_end_X1_has : GoodIn wsX1_end (wsV RX1 32 RX1 yX1_has wsX1_has) := goodIn_app (goodIn_of _ (by decide +kernel)) ggX1_end_X1_has
theorem dX1_end_0 : decode cX1_end 0 = .ok (.aload_n 0, 1) := by decide +kernel
theorem dX1_end_1 : decode cX1_end 1 = .ok (.iload_n 1, 1) := by decide +kernel
theorem dX1_end_2 : decode cX1_end 2 = .ok (.invokevirtual 32, 3) := by decide +kernel
theorem dX1_end_5 : decode cX1_end 5 = .ok (.ifCond .eq 10, 3) := by decide +kernel
theorem dX1_end_8 : decode cX1_end 8 = .ok (.aload_n 0, 1) := by decide +kernel
theorem dX1_end_9 : decode cX1_end 9 = .ok (.getfield 28, 3) := by decide +kernel
theorem dX1_end_12 : decode cX1_end 12 = .ok (.iload_n 1, 1) := by decide +kernel
theorem dX1_end_13 : decode cX1_end 13 = .ok (.iconst 0, 1) := by decide +kernel
theorem dX1_end_14 : decode cX1_end 14 = .ok (.bastore, 1) := by decide +kernel
theorem dX1_end_15 : decode cX1_end 15 = .ok (.return_, 1) := by decide +kernel
set_option maxRecDepth 20000 in
theorem ggX1_kindOf_X1_has : GoodIn wsX1_kindOf wsX1_has := goodIn_r _ [6, 7, 8, 9, 10, 11, 12, 13] (by decide +kernel) (by decide +kernel)
set_option maxRecDepth 20000 in
theorem gX1_kindOf_X1_has : GoodIn wsX1_kindOf (wsV RX1 32 RX1 yX1_has wsX1_has) := goodIn_app (goodIn_of _ (by decide +kernel)) ggX1_kindOf_X1_has
theorem dX1_kindOf_0 : decode cX1_kindOf 0 = .ok (.aload_n 0, 1) := by decide +kernel
theorem dX1_kindOf_1 : decode cX1_kindOf 1 = .ok (.iload_n 1, 1) := by decide +kernel
theorem dX1_kindOf_2 : decode cX1_kindOf 2 = .ok (.invokevirtual 32, 3) := by decide +kernel
theorem dX1_kindOf_5 : decode cX1_kindOf 5 = .ok (.ifCond .eq 12, 3) := by decide +kernel
theorem dX1_kindOf_8 : decode cX1_kindOf 8 = .ok (.aload_n 0, 1) := by decide +kernel
theorem dX1_kindOf_9 : decode cX1_kindOf 9 = .ok (.getfield 22, 3) := by decide +kernel
theorem dX1_kindOf_12 : decode cX1_kindOf 12 = .ok (.iload_n 1, 1) := by decide +kernel
theorem dX1_kindOf_13 : decode cX1_kindOf 13 = .ok (.iaload, 1) := by decide +kernel
theorem dX1_kindOf_14 : decode cX1_kindOf 14 = .ok (.goto 4, 3) := by decide +kernel
theorem dX1_kindOf_17 : decode cX1_kindOf 17 = .ok (.iconst (-1), 1) := by decide +kernel
theorem dX1_kindOf_18 : decode cX1_kindOf 18 = .ok (.ireturn, 1) := by decide +kernel
set_option maxRecDepth 20000 in
theorem ggX1_personOf_X1_has : GoodIn wsX1_personOf wsX1_has := goodIn_r _ [6, 7, 8, 9, 10, 11, 12, 13] (by decide +kernel) (by decide +kernel)
set_option maxRecDepth 20000 in
theorem gX1_personOf_X1_has : GoodIn wsX1_personOf (wsV RX1 32 RX1 yX1_has wsX1_has) := goodIn_app (goodIn_of _ (by decide +kernel)) ggX1_personOf_X1_has
theorem dX1_personOf_0 : decode cX1_personOf 0 = .ok (.aload_n 0, 1) := by decide +kernel
theorem dX1_personOf_1 : decode cX1_personOf 1 = .ok (.iload_n 1, 1) := by decide +kernel
theorem dX1_personOf_2 : decode cX1_personOf 2 = .ok (.invokevirtual 32, 3) := by decide +kernel
theorem dX1_personOf_5 : decode cX1_personOf 5 = .ok (.ifCond .eq 12, 3) := by decide +kernel
theorem dX1_personOf_8 : decode cX1_personOf 8 = .ok (.aload_n 0, 1) := by decide +kernel
theorem dX1_personOf_9 : decode cX1_personOf 9 = .ok (.getfield 25, 3) := by decide +kernel
theorem dX1_personOf_12 : decode cX1_personOf 12 = .ok (.iload_n 1, 1) := by decide +kernel
theorem dX1_personOf_13 : decode cX1_personOf 13 = .ok (.iaload, 1) := by decide +kernel
theorem dX1_personOf_14 : decode cX1_personOf 14 = .ok (.goto 4, 3) := by decide +kernel
theorem dX1_personOf_17 : decode cX1_personOf 17 = .ok (.iconst (-1), 1) := by decide +kernel
theorem dX1_personOf_18 : decode cX1_personOf 18 = .ok (.ireturn, 1) := by decide +kernel
theorem dX1_bindingOn_0 : decode cX1_bindingOn 0 = .ok (.iconst (-1), 1) := by decide +kernel
theorem dX1_bindingOn_1 : decode cX1_bindingOn 1 = .ok (.istore_n 2, 1) := by decide +kernel
theorem dX1_bindingOn_2 : decode cX1_bindingOn 2 = .ok (.iconst 0, 1) := by decide +kernel
theorem dX1_bindingOn_3 : decode cX1_bindingOn 3 = .ok (.istore_n 3, 1) := by decide +kernel
theorem dX1_bindingOn_4 : decode cX1_bindingOn 4 = .ok (.iload_n 3, 1) := by decide +kernel
theorem dX1_bindingOn_5 : decode cX1_bindingOn 5 = .ok (.aload_n 0, 1) := by decide +kernel
theorem dX1_bindingOn_6 : decode cX1_bindingOn 6 = .ok (.getfield 9, 3) := by decide +kernel
theorem dX1_bindingOn_9 : decode cX1_bindingOn 9 = .ok (.if_icmp .ge 56, 3) := by decide +kernel
theorem dX1_bindingOn_12 : decode cX1_bindingOn 12 = .ok (.iload_n 3, 1) := by decide +kernel
theorem dX1_bindingOn_13 : decode cX1_bindingOn 13 = .ok (.bipush 30, 2) := by decide +kernel
theorem dX1_bindingOn_15 : decode cX1_bindingOn 15 = .ok (.if_icmp .ge 50, 3) := by decide +kernel
theorem dX1_bindingOn_18 : decode cX1_bindingOn 18 = .ok (.aload_n 0, 1) := by decide +kernel
theorem dX1_bindingOn_19 : decode cX1_bindingOn 19 = .ok (.getfield 28, 3) := by decide +kernel
theorem dX1_bindingOn_22 : decode cX1_bindingOn 22 = .ok (.iload_n 3, 1) := by decide +kernel
theorem dX1_bindingOn_23 : decode cX1_bindingOn 23 = .ok (.baload, 1) := by decide +kernel
theorem dX1_bindingOn_24 : decode cX1_bindingOn 24 = .ok (.ifCond .eq 35, 3) := by decide +kernel
theorem dX1_bindingOn_27 : decode cX1_bindingOn 27 = .ok (.aload_n 0, 1) := by decide +kernel
theorem dX1_bindingOn_28 : decode cX1_bindingOn 28 = .ok (.getfield 15, 3) := by decide +kernel
theorem dX1_bindingOn_31 : decode cX1_bindingOn 31 = .ok (.iload_n 3, 1) := by decide +kernel
theorem dX1_bindingOn_32 : decode cX1_bindingOn 32 = .ok (.iaload, 1) := by decide +kernel
theorem dX1_bindingOn_33 : decode cX1_bindingOn 33 = .ok (.iload_n 1, 1) := by decide +kernel
theorem dX1_bindingOn_34 : decode cX1_bindingOn 34 = .ok (.if_icmp .ne 25, 3) := by decide +kernel
theorem dX1_bindingOn_37 : decode cX1_bindingOn 37 = .ok (.iload_n 2, 1) := by decide +kernel
theorem dX1_bindingOn_38 : decode cX1_bindingOn 38 = .ok (.iconst (-1), 1) := by decide +kernel
theorem dX1_bindingOn_39 : decode cX1_bindingOn 39 = .ok (.if_icmp .eq 18, 3) := by decide +kernel
theorem dX1_bindingOn_42 : decode cX1_bindingOn 42 = .ok (.aload_n 0, 1) := by decide +kernel
theorem dX1_bindingOn_43 : decode cX1_bindingOn 43 = .ok (.getfield 19, 3) := by decide +kernel
theorem dX1_bindingOn_46 : decode cX1_bindingOn 46 = .ok (.iload_n 3, 1) := by decide +kernel
theorem dX1_bindingOn_47 : decode cX1_bindingOn 47 = .ok (.iaload, 1) := by decide +kernel
theorem dX1_bindingOn_48 : decode cX1_bindingOn 48 = .ok (.aload_n 0, 1) := by decide +kernel
theorem dX1_bindingOn_49 : decode cX1_bindingOn 49 = .ok (.getfield 19, 3) := by decide +kernel
theorem dX1_bindingOn_52 : decode cX1_bindingOn 52 = .ok (.iload_n 2, 1) := by decide +kernel
theorem dX1_bindingOn_53 : decode cX1_bindingOn 53 = .ok (.iaload, 1) := by decide +kernel
theorem dX1_bindingOn_54 : decode cX1_bindingOn 54 = .ok (.if_icmp .lt 5, 3) := by decide +kernel
theorem dX1_bindingOn_57 : decode cX1_bindingOn 57 = .ok (.iload_n 3, 1) := by decide +kernel
theorem dX1_bindingOn_58 : decode cX1_bindingOn 58 = .ok (.istore_n 2, 1) := by decide +kernel
theorem dX1_bindingOn_59 : decode cX1_bindingOn 59 = .ok (.iinc 3 1, 3) := by decide +kernel
theorem dX1_bindingOn_62 : decode cX1_bindingOn 62 = .ok (.goto (-58), 3) := by decide +kernel
theorem dX1_bindingOn_65 : decode cX1_bindingOn 65 = .ok (.iload_n 2, 1) := by decide +kernel
theorem dX1_bindingOn_66 : decode cX1_bindingOn 66 = .ok (.ireturn, 1) := by decide +kernel
theorem dX1_endAllOn_0 : decode cX1_endAllOn 0 = .ok (.iconst 0, 1) := by decide +kernel
theorem dX1_endAllOn_1 : decode cX1_endAllOn 1 = .ok (.istore_n 2, 1) := by decide +kernel
theorem dX1_endAllOn_2 : decode cX1_endAllOn 2 = .ok (.iload_n 2, 1) := by decide +kernel
theorem dX1_endAllOn_3 : decode cX1_endAllOn 3 = .ok (.aload_n 0, 1) := by decide +kernel
theorem dX1_endAllOn_4 : decode cX1_endAllOn 4 = .ok (.getfield 9, 3) := by decide +kernel
theorem dX1_endAllOn_7 : decode cX1_endAllOn 7 = .ok (.if_icmp .ge 32, 3) := by decide +kernel
theorem dX1_endAllOn_10 : decode cX1_endAllOn 10 = .ok (.iload_n 2, 1) := by decide +kernel
theorem dX1_endAllOn_11 : decode cX1_endAllOn 11 = .ok (.bipush 30, 2) := by decide +kernel
theorem dX1_endAllOn_13 : decode cX1_endAllOn 13 = .ok (.if_icmp .ge 26, 3) := by decide +kernel
theorem dX1_endAllOn_16 : decode cX1_endAllOn 16 = .ok (.aload_n 0, 1) := by decide +kernel
theorem dX1_endAllOn_17 : decode cX1_endAllOn 17 = .ok (.getfield 15, 3) := by decide +kernel
theorem dX1_endAllOn_20 : decode cX1_endAllOn 20 = .ok (.iload_n 2, 1) := by decide +kernel
theorem dX1_endAllOn_21 : decode cX1_endAllOn 21 = .ok (.iaload, 1) := by decide +kernel
theorem dX1_endAllOn_22 : decode cX1_endAllOn 22 = .ok (.iload_n 1, 1) := by decide +kernel
theorem dX1_endAllOn_23 : decode cX1_endAllOn 23 = .ok (.if_icmp .ne 10, 3) := by decide +kernel
theorem dX1_endAllOn_26 : decode cX1_endAllOn 26 = .ok (.aload_n 0, 1) := by decide +kernel
theorem dX1_endAllOn_27 : decode cX1_endAllOn 27 = .ok (.getfield 28, 3) := by decide +kernel
theorem dX1_endAllOn_30 : decode cX1_endAllOn 30 = .ok (.iload_n 2, 1) := by decide +kernel
theorem dX1_endAllOn_31 : decode cX1_endAllOn 31 = .ok (.iconst 0, 1) := by decide +kernel
theorem dX1_endAllOn_32 : decode cX1_endAllOn 32 = .ok (.bastore, 1) := by decide +kernel
theorem dX1_endAllOn_33 : decode cX1_endAllOn 33 = .ok (.iinc 2 1, 3) := by decide +kernel
theorem dX1_endAllOn_36 : decode cX1_endAllOn 36 = .ok (.goto (-34), 3) := by decide +kernel
theorem dX1_endAllOn_39 : decode cX1_endAllOn 39 = .ok (.return_, 1) := by decide +kernel
set_option maxRecDepth 20000 in
theorem ggX2_init_X1_init : GoodIn wsX2_init wsX1_init := goodIn_r _ [19, 20, 2, 3, 21, 12, 22, 23, 24, 25, 10, 26, 46, 47, 48, 49, 50, 51] (by decide +kernel) (by decide +kernel)
set_option maxRecDepth 20000 in
theorem gX2_init_X1_init_n17 : GoodIn wsX2_init (wsX1_init) := ggX2_init_X1_init
set_option maxRecDepth 20000 in
theorem ggX2_init_X0_init : GoodIn wsX2_init wsX0_init := goodIn_r _ [28, 29, 2, 3, 30, 31, 32, 33, 34, 35, 36, 12, 37, 38, 39, 52, 53, 54, 55, 56, 57, 58, 59, 60, 61] (by decide +kernel) (by decide +kernel)
set_option maxRecDepth 20000 in
theorem gX2_init_X0_init_n37 : GoodIn wsX2_init (wsX0_init) := ggX2_init_X0_init
theorem dX2_init_0 : decode cX2_init 0 = .ok (.aload_n 0, 1) := by decide +kernel
theorem dX2_init_1 : decode cX2_init 1 = .ok (.invokespecial 1, 3) := by decide +kernel
theorem dX2_init_4 : decode cX2_init 4 = .ok (.aload_n 0, 1) := by decide +kernel
theorem dX2_init_5 : decode cX2_init 5 = .ok (.bipush 8, 2) := by decide +kernel
theorem dX2_init_7 : decode cX2_init 7 = .ok (.anewarray 9, 3) := by decide +kernel
theorem dX2_init_10 : decode cX2_init 10 = .ok (.putfield 11, 3) := by decide +kernel
theorem dX2_init_13 : decode cX2_init 13 = .ok (.aload_n 0, 1) := by decide +kernel
theorem dX2_init_14 : decode cX2_init 14 = .ok (.new 15, 3) := by decide +kernel
theorem dX2_init_17 : decode cX2_init 17 = .ok (.dup, 1) := by decide +kernel
theorem dX2_init_18 : decode cX2_init 18 = .ok (.invokespecial 17, 3) := by decide +kernel
theorem dX2_init_21 : decode cX2_init 21 = .ok (.putfield 18, 3) := by decide +kernel
theorem dX2_init_24 : decode cX2_init 24 = .ok (.aload_n 0, 1) := by decide +kernel
theorem dX2_init_25 : decode cX2_init 25 = .ok (.bipush 16, 2) := by decide +kernel
theorem dX2_init_27 : decode cX2_init 27 = .ok (.newarray .boolean, 2) := by decide +kernel
theorem dX2_init_29 : decode cX2_init 29 = .ok (.putfield 22, 3) := by decide +kernel
theorem dX2_init_32 : decode cX2_init 32 = .ok (.aload_n 0, 1) := by decide +kernel
theorem dX2_init_33 : decode cX2_init 33 = .ok (.bipush 16, 2) := by decide +kernel
theorem dX2_init_35 : decode cX2_init 35 = .ok (.newarray .int, 2) := by decide +kernel
theorem dX2_init_37 : decode cX2_init 37 = .ok (.putfield 26, 3) := by decide +kernel
theorem dX2_init_40 : decode cX2_init 40 = .ok (.aload_n 0, 1) := by decide +kernel
theorem dX2_init_41 : decode cX2_init 41 = .ok (.bipush 16, 2) := by decide +kernel
theorem dX2_init_43 : decode cX2_init 43 = .ok (.newarray .int, 2) := by decide +kernel
theorem dX2_init_45 : decode cX2_init 45 = .ok (.putfield 30, 3) := by decide +kernel
theorem dX2_init_48 : decode cX2_init 48 = .ok (.aload_n 0, 1) := by decide +kernel
theorem dX2_init_49 : decode cX2_init 49 = .ok (.iconst 0, 1) := by decide +kernel
theorem dX2_init_50 : decode cX2_init 50 = .ok (.putfield 33, 3) := by decide +kernel
theorem dX2_init_53 : decode cX2_init 53 = .ok (.iconst 0, 1) := by decide +kernel
theorem dX2_init_54 : decode cX2_init 54 = .ok (.istore_n 1, 1) := by decide +kernel
theorem dX2_init_55 : decode cX2_init 55 = .ok (.iload_n 1, 1) := by decide +kernel
theorem dX2_init_56 : decode cX2_init 56 = .ok (.bipush 8, 2) := by decide +kernel
theorem dX2_init_58 : decode cX2_init 58 = .ok (.if_icmp .ge 22, 3) := by decide +kernel
theorem dX2_init_61 : decode cX2_init 61 = .ok (.aload_n 0, 1) := by decide +kernel
theorem dX2_init_62 : decode cX2_init 62 = .ok (.getfield 11, 3) := by decide +kernel
theorem dX2_init_65 : decode cX2_init 65 = .ok (.iload_n 1, 1) := by decide +kernel
theorem dX2_init_66 : decode cX2_init 66 = .ok (.new 9, 3) := by decide +kernel
theorem dX2_init_69 : decode cX2_init 69 = .ok (.dup, 1) := by decide +kernel
theorem dX2_init_70 : decode cX2_init 70 = .ok (.invokespecial 37, 3) := by decide +kernel
theorem dX2_init_73 : decode cX2_init 73 = .ok (.aastore, 1) := by decide +kernel
theorem dX2_init_74 : decode cX2_init 74 = .ok (.iinc 1 1, 3) := by decide +kernel
theorem dX2_init_77 : decode cX2_init 77 = .ok (.goto (-22), 3) := by decide +kernel
theorem dX2_init_80 : decode cX2_init 80 = .ok (.return_, 1) := by decide +kernel
set_option maxRecDepth 20000 in
theorem ggX2_pass_X2_requireRange : GoodIn wsX2_pass wsX2_requireRange := goodIn_ca (goodIn_r _ [8, 9, 10] (by decide +kernel) (by decide +kernel)) (goodIn_sub (fun _ h => List.mem_cons_of_mem _ (List.mem_append_right _ h)) (by decide +kernel))
set_option maxRecDepth 20000 in
theorem gX2_pass_X2_requireRange : GoodIn wsX2_pass (va_wsS RX2 38 yX2_requireRange wsX2_requireRange) := goodIn_app (goodIn_of _ (by decide +kernel)) ggX2_pass_X2_requireRange
theorem dX2_pass_0 : decode cX2_pass 0 = .ok (.iload_n 1, 1) := by decide +kernel
theorem dX2_pass_1 : decode cX2_pass 1 = .ok (.iconst 1, 1) := by decide +kernel
theorem dX2_pass_2 : decode cX2_pass 2 = .ok (.sipush 1000, 3) := by decide +kernel
theorem dX2_pass_5 : decode cX2_pass 5 = .ok (.invokestatic 38, 3) := by decide +kernel
theorem dX2_pass_8 : decode cX2_pass 8 = .ok (.iload_n 1, 1) := by decide +kernel
theorem dX2_pass_9 : decode cX2_pass 9 = .ok (.ldc 42, 2) := by decide +kernel
theorem dX2_pass_11 : decode cX2_pass 11 = .ok (.aload_n 0, 1) := by decide +kernel
theorem dX2_pass_12 : decode cX2_pass 12 = .ok (.getfield 33, 3) := by decide +kernel
theorem dX2_pass_15 : decode cX2_pass 15 = .ok (.isub, 1) := by decide +kernel
theorem dX2_pass_16 : decode cX2_pass 16 = .ok (.if_icmp .le 13, 3) := by decide +kernel
theorem dX2_pass_19 : decode cX2_pass 19 = .ok (.new 43, 3) := by decide +kernel
theorem dX2_pass_22 : decode cX2_pass 22 = .ok (.dup, 1) := by decide +kernel
theorem dX2_pass_23 : decode cX2_pass 23 = .ok (.ldc 45, 2) := by decide +kernel
theorem dX2_pass_25 : decode cX2_pass 25 = .ok (.invokespecial 47, 3) := by decide +kernel
theorem dX2_pass_28 : decode cX2_pass 28 = .ok (.athrow, 1) := by decide +kernel
theorem dX2_pass_29 : decode cX2_pass 29 = .ok (.aload_n 0, 1) := by decide +kernel
theorem dX2_pass_30 : decode cX2_pass 30 = .ok (.dup, 1) := by decide +kernel
theorem dX2_pass_31 : decode cX2_pass 31 = .ok (.getfield 33, 3) := by decide +kernel
theorem dX2_pass_34 : decode cX2_pass 34 = .ok (.iload_n 1, 1) := by decide +kernel
theorem dX2_pass_35 : decode cX2_pass 35 = .ok (.iadd, 1) := by decide +kernel
theorem dX2_pass_36 : decode cX2_pass 36 = .ok (.putfield 33, 3) := by decide +kernel
theorem dX2_pass_39 : decode cX2_pass 39 = .ok (.aload_n 0, 1) := by decide +kernel
theorem dX2_pass_40 : decode cX2_pass 40 = .ok (.getfield 33, 3) := by decide +kernel
theorem dX2_pass_43 : decode cX2_pass 43 = .ok (.ireturn, 1) := by decide +kernel
set_option maxRecDepth 20000 in
theorem ggX2_rent_X2_boxAt : GoodIn wsX2_rent wsX2_boxAt := goodIn_ca (goodIn_r _ [8, 9, 10, 11, 7, 12, 13, 14, 38, 39, 40, 41, 42, 43] (by decide +kernel) (by decide +kernel)) (goodIn_sub (fun _ h => List.mem_cons_of_mem _ (List.mem_append_right _ h)) (by decide +kernel))
set_option maxRecDepth 20000 in
theorem gX2_rent_X2_boxAt : GoodIn wsX2_rent (wsV RX2 50 RX2 yX2_boxAt wsX2_boxAt) := goodIn_app (goodIn_of _ (by decide +kernel)) ggX2_rent_X2_boxAt
set_option maxRecDepth 20000 in
theorem ggX2_rent_X2_requirePerson : GoodIn wsX2_rent wsX2_requirePerson := goodIn_ca (goodIn_r _ [17, 10, 11, 7, 12, 13, 14] (by decide +kernel) (by decide +kernel)) (goodIn_sub (fun _ h => List.mem_cons_of_mem _ (List.mem_append_right _ h)) (by decide +kernel))
set_option maxRecDepth 20000 in
theorem gX2_rent_X2_requirePerson : GoodIn wsX2_rent (va_wsS RX2 54 yX2_requirePerson wsX2_requirePerson) := goodIn_app (goodIn_of _ (by decide +kernel)) ggX2_rent_X2_requirePerson
set_option maxRecDepth 20000 in
theorem ggX2_rent_X2_requireRange : GoodIn wsX2_rent wsX2_requireRange := goodIn_ca (goodIn_r _ [12, 13, 14] (by decide +kernel) (by decide +kernel)) (goodIn_sub (fun _ h => List.mem_cons_of_mem _ (List.mem_append_right _ h)) (by decide +kernel))
set_option maxRecDepth 20000 in
theorem gX2_rent_X2_requireRange : GoodIn wsX2_rent (va_wsS RX2 38 yX2_requireRange wsX2_requireRange) := goodIn_app (goodIn_of _ (by decide +kernel)) ggX2_rent_X2_requireRange
set_option maxRecDepth 20000 in
theorem ggX2_rent_X0_isFree : GoodIn wsX2_rent wsX0_isFree := goodIn_r _ [21, 22, 44, 45, 46, 47, 48, 49, 50, 51, 52, 53] (by decide +kernel) (by decide +kernel)
set_option maxRecDepth 20000 in
theorem gX2_rent_X0_isFree_n58 : GoodIn wsX2_rent (wsX0_isFree) := ggX2_rent_X0_isFree
set_option maxRecDepth 20000 in
theorem ggX2_rent_X2_isAlive : GoodIn wsX2_rent wsX2_isAlive := goodIn_r _ [26, 27, 28, 29, 7, 30, 38, 39, 40, 41, 42, 43] (by decide +kernel) (by decide +kernel)
set_option maxRecDepth 20000 in
theorem gX2_rent_X2_isAlive : GoodIn wsX2_rent (wsV RX2 64 RX2 yX2_isAlive wsX2_isAlive) := goodIn_app (goodIn_of _ (by decide +kernel)) ggX2_rent_X2_isAlive
set_option maxRecDepth 20000 in
theorem ggX2_rent_X0_startRent : GoodIn wsX2_rent wsX0_startRent := goodIn_r _ [33, 22, 34, 35, 36, 37, 44, 45, 46, 47, 48, 49, 50, 51, 52, 53] (by decide +kernel) (by decide +kernel)
set_option maxRecDepth 20000 in
theorem gX2_rent_X0_startRent_n70 : GoodIn wsX2_rent (wsX0_startRent) := ggX2_rent_X0_startRent
theorem dX2_rent_0 : decode cX2_rent 0 = .ok (.aload_n 0, 1) := by decide +kernel
theorem dX2_rent_1 : decode cX2_rent 1 = .ok (.iload_n 1, 1) := by decide +kernel
theorem dX2_rent_2 : decode cX2_rent 2 = .ok (.invokevirtual 50, 3) := by decide +kernel
theorem dX2_rent_5 : decode cX2_rent 5 = .ok (.astore 4, 2) := by decide +kernel
theorem dX2_rent_7 : decode cX2_rent 7 = .ok (.iload_n 2, 1) := by decide +kernel
theorem dX2_rent_8 : decode cX2_rent 8 = .ok (.invokestatic 54, 3) := by decide +kernel
theorem dX2_rent_11 : decode cX2_rent 11 = .ok (.iload_n 3, 1) := by decide +kernel
theorem dX2_rent_12 : decode cX2_rent 12 = .ok (.iconst 1, 1) := by decide +kernel
theorem dX2_rent_13 : decode cX2_rent 13 = .ok (.sipush 1000, 3) := by decide +kernel
theorem dX2_rent_16 : decode cX2_rent 16 = .ok (.invokestatic 38, 3) := by decide +kernel
theorem dX2_rent_19 : decode cX2_rent 19 = .ok (.aload 4, 2) := by decide +kernel
theorem dX2_rent_21 : decode cX2_rent 21 = .ok (.invokevirtual 58, 3) := by decide +kernel
theorem dX2_rent_24 : decode cX2_rent 24 = .ok (.ifCond .ne 13, 3) := by decide +kernel
theorem dX2_rent_27 : decode cX2_rent 27 = .ok (.new 43, 3) := by decide +kernel
theorem dX2_rent_30 : decode cX2_rent 30 = .ok (.dup, 1) := by decide +kernel
theorem dX2_rent_31 : decode cX2_rent 31 = .ok (.ldc 62, 2) := by decide +kernel
theorem dX2_rent_33 : decode cX2_rent 33 = .ok (.invokespecial 47, 3) := by decide +kernel
theorem dX2_rent_36 : decode cX2_rent 36 = .ok (.athrow, 1) := by decide +kernel
theorem dX2_rent_37 : decode cX2_rent 37 = .ok (.aload_n 0, 1) := by decide +kernel
theorem dX2_rent_38 : decode cX2_rent 38 = .ok (.iload_n 2, 1) := by decide +kernel
theorem dX2_rent_39 : decode cX2_rent 39 = .ok (.invokevirtual 64, 3) := by decide +kernel
theorem dX2_rent_42 : decode cX2_rent 42 = .ok (.ifCond .ne 13, 3) := by decide +kernel
theorem dX2_rent_45 : decode cX2_rent 45 = .ok (.new 43, 3) := by decide +kernel
theorem dX2_rent_48 : decode cX2_rent 48 = .ok (.dup, 1) := by decide +kernel
theorem dX2_rent_49 : decode cX2_rent 49 = .ok (.ldc 68, 2) := by decide +kernel
theorem dX2_rent_51 : decode cX2_rent 51 = .ok (.invokespecial 47, 3) := by decide +kernel
theorem dX2_rent_54 : decode cX2_rent 54 = .ok (.athrow, 1) := by decide +kernel
theorem dX2_rent_55 : decode cX2_rent 55 = .ok (.aload 4, 2) := by decide +kernel
theorem dX2_rent_57 : decode cX2_rent 57 = .ok (.iload_n 2, 1) := by decide +kernel
theorem dX2_rent_58 : decode cX2_rent 58 = .ok (.aload_n 0, 1) := by decide +kernel
theorem dX2_rent_59 : decode cX2_rent 59 = .ok (.getfield 33, 3) := by decide +kernel
theorem dX2_rent_62 : decode cX2_rent 62 = .ok (.iload_n 3, 1) := by decide +kernel
theorem dX2_rent_63 : decode cX2_rent 63 = .ok (.iadd, 1) := by decide +kernel
theorem dX2_rent_64 : decode cX2_rent 64 = .ok (.invokevirtual 70, 3) := by decide +kernel
theorem dX2_rent_67 : decode cX2_rent 67 = .ok (.aload 4, 2) := by decide +kernel
theorem dX2_rent_69 : decode cX2_rent 69 = .ok (.getfield 74, 3) := by decide +kernel
theorem dX2_rent_72 : decode cX2_rent 72 = .ok (.ireturn, 1) := by decide +kernel
set_option maxRecDepth 20000 in
theorem ggX2_extend_X2_boxAt : GoodIn wsX2_extend wsX2_boxAt := goodIn_ca (goodIn_r _ [5, 6, 7, 8, 4, 9, 10, 11, 32, 33, 34, 35, 36, 37] (by decide +kernel) (by decide +kernel)) (goodIn_sub (fun _ h => List.mem_cons_of_mem _ (List.mem_append_left _ (List.mem_append_right _ h))) (by decide +kernel))
set_option maxRecDepth 20000 in
theorem gX2_extend_X2_boxAt : GoodIn wsX2_extend (wsV RX2 50 RX2 yX2_boxAt wsX2_boxAt) := goodIn_app (goodIn_of _ (by decide +kernel)) ggX2_extend_X2_boxAt
set_option maxRecDepth 20000 in
theorem ggX2_extend_X2_requireRange : GoodIn wsX2_extend wsX2_requireRange := goodIn_ca (goodIn_r _ [9, 10, 11] (by decide +kernel) (by decide +kernel)) (goodIn_sub (fun _ h => List.mem_cons_of_mem _ (List.mem_append_left _ (List.mem_append_right _ h))) (by decide +kernel))
set_option maxRecDepth 20000 in
theorem gX2_extend_X2_requireRange : GoodIn wsX2_extend (va_wsS RX2 38 yX2_requireRange wsX2_requireRange) := goodIn_app (goodIn_of _ (by decide +kernel)) ggX2_extend_X2_requireRange
set_option maxRecDepth 20000 in
theorem ggX2_extend_X2_requireRented : GoodIn wsX2_extend wsX2_requireRented := goodIn_ca (goodIn_r _ [14, 15, 16, 17, 18, 19, 20, 21, 22, 23, 24, 25, 26, 27, 28, 29, 30, 31] (by decide +kernel) (by decide +kernel)) (goodIn_sub (fun _ h => List.mem_cons_of_mem _ (List.mem_append_right _ h)) (by decide +kernel))
set_option maxRecDepth 20000 in
theorem gX2_extend_X2_requireRented : GoodIn wsX2_extend (va_wsS RX2 77 yX2_requireRented wsX2_requireRented) := goodIn_app (goodIn_of _ (by decide +kernel)) ggX2_extend_X2_requireRented
theorem dX2_extend_0 : decode cX2_extend 0 = .ok (.aload_n 0, 1) := by decide +kernel
theorem dX2_extend_1 : decode cX2_extend 1 = .ok (.iload_n 1, 1) := by decide +kernel
theorem dX2_extend_2 : decode cX2_extend 2 = .ok (.invokevirtual 50, 3) := by decide +kernel
theorem dX2_extend_5 : decode cX2_extend 5 = .ok (.astore_n 3, 1) := by decide +kernel
theorem dX2_extend_6 : decode cX2_extend 6 = .ok (.iload_n 2, 1) := by decide +kernel
theorem dX2_extend_7 : decode cX2_extend 7 = .ok (.iconst 1, 1) := by decide +kernel
theorem dX2_extend_8 : decode cX2_extend 8 = .ok (.sipush 1000, 3) := by decide +kernel
theorem dX2_extend_11 : decode cX2_extend 11 = .ok (.invokestatic 38, 3) := by decide +kernel
theorem dX2_extend_14 : decode cX2_extend 14 = .ok (.aload_n 3, 1) := by decide +kernel
theorem dX2_extend_15 : decode cX2_extend 15 = .ok (.invokestatic 77, 3) := by decide +kernel
theorem dX2_extend_18 : decode cX2_extend 18 = .ok (.aload_n 3, 1) := by decide +kernel
theorem dX2_extend_19 : decode cX2_extend 19 = .ok (.dup, 1) := by decide +kernel
theorem dX2_extend_20 : decode cX2_extend 20 = .ok (.getfield 74, 3) := by decide +kernel
theorem dX2_extend_23 : decode cX2_extend 23 = .ok (.iload_n 2, 1) := by decide +kernel
theorem dX2_extend_24 : decode cX2_extend 24 = .ok (.iadd, 1) := by decide +kernel
theorem dX2_extend_25 : decode cX2_extend 25 = .ok (.putfield 74, 3) := by decide +kernel
theorem dX2_extend_28 : decode cX2_extend 28 = .ok (.aload_n 3, 1) := by decide +kernel
theorem dX2_extend_29 : decode cX2_extend 29 = .ok (.getfield 74, 3) := by decide +kernel
theorem dX2_extend_32 : decode cX2_extend 32 = .ok (.ireturn, 1) := by decide +kernel
set_option maxRecDepth 20000 in
theorem ggX2_giveBack_X2_boxAt : GoodIn wsX2_giveBack wsX2_boxAt := goodIn_ca (goodIn_r _ [7, 8, 9, 10, 6, 11, 12, 13, 123, 124, 125, 126, 127, 128] (by decide +kernel) (by decide +kernel)) (goodIn_sub (fun _ h => List.mem_cons_of_mem _ (List.mem_append_right _ h)) (by decide +kernel))
set_option maxRecDepth 20000 in
theorem gX2_giveBack_X2_boxAt : GoodIn wsX2_giveBack (wsV RX2 50 RX2 yX2_boxAt wsX2_boxAt) := goodIn_app (goodIn_of _ (by decide +kernel)) ggX2_giveBack_X2_boxAt
set_option maxRecDepth 20000 in
theorem ggX2_giveBack_X2_requirePerson : GoodIn wsX2_giveBack wsX2_requirePerson := goodIn_ca (goodIn_r _ [16, 9, 10, 6, 11, 12, 13] (by decide +kernel) (by decide +kernel)) (goodIn_sub (fun _ h => List.mem_cons_of_mem _ (List.mem_append_right _ h)) (by decide +kernel))
set_option maxRecDepth 20000 in
theorem gX2_giveBack_X2_requirePerson : GoodIn wsX2_giveBack (va_wsS RX2 54 yX2_requirePerson wsX2_requirePerson) := goodIn_app (goodIn_of _ (by decide +kernel)) ggX2_giveBack_X2_requirePerson
set_option maxRecDepth 20000 in
theorem ggX2_giveBack_X2_requireRented : GoodIn wsX2_giveBack wsX2_requireRented := goodIn_ca (goodIn_r _ [19, 1, 2, 20, 21, 22, 23, 24, 113, 114, 115, 116, 117, 118, 119, 120, 121, 122] (by decide +kernel) (by decide +kernel)) (goodIn_sub (fun _ h => List.mem_cons_of_mem _ (List.mem_append_left _ (List.mem_append_right _ h))) (by decide +kernel))
set_option maxRecDepth 20000 in
theorem gX2_giveBack_X2_requireRented : GoodIn wsX2_giveBack (va_wsS RX2 77 yX2_requireRented wsX2_requireRented) := goodIn_app (goodIn_of _ (by decide +kernel)) ggX2_giveBack_X2_requireRented
set_option maxRecDepth 20000 in
theorem ggX2_giveBack_X2_rightOf : GoodIn wsX2_giveBack wsX2_rightOf := goodIn_r _ [28, 29, 20, 21, 22, 23, 24, 30, 31, 32, 6, 33, 34, 35, 36, 37, 38, 39, 40, 41, 42, 43, 44, 45, 46, 47, 48, 49, 50, 51, 52, 53, 54, 55, 56, 57, 58, 59, 60, 61, 62, 63, 64, 65, 66, 67, 68, 69, 70, 71, 72, 73, 74, 75, 76, 77, 78, 79, 80, 81, 82, 83, 84, 85, 86, 87, 88, 89, 90, 91, 92, 93, 94, 95, 96, 97, 123, 124, 125, 126, 127, 128, 113, 114, 115, 116, 117, 118, 119, 120, 121, 122, 129, 130, 131, 132, 133, 134] (by decide +kernel) (by decide +kernel)
set_option maxRecDepth 20000 in
theorem gX2_giveBack_X2_rightOf : GoodIn wsX2_giveBack (wsV RX2 81 RX2 yX2_rightOf wsX2_rightOf) := goodIn_app (goodIn_of _ (by decide +kernel)) ggX2_giveBack_X2_rightOf
set_option maxRecDepth 20000 in
theorem ggX2_giveBack_X2_makeFree : GoodIn wsX2_giveBack wsX2_makeFree := goodIn_r _ [101, 29, 102, 21, 103, 104, 24, 105, 106, 107, 108, 109, 94, 110, 39, 111, 112, 42, 44, 43, 123, 124, 125, 126, 127, 128, 113, 114, 115, 116, 117, 118, 119, 120, 121, 122, 129, 130, 131, 132, 133, 134] (by decide +kernel) (by decide +kernel)
set_option maxRecDepth 20000 in
theorem gX2_giveBack_X2_makeFree : GoodIn wsX2_giveBack (wsV RX2 90 RX2 yX2_makeFree wsX2_makeFree) := goodIn_app (goodIn_of _ (by decide +kernel)) ggX2_giveBack_X2_makeFree
theorem dX2_giveBack_0 : decode cX2_giveBack 0 = .ok (.aload_n 0, 1) := by decide +kernel
theorem dX2_giveBack_1 : decode cX2_giveBack 1 = .ok (.iload_n 1, 1) := by decide +kernel
theorem dX2_giveBack_2 : decode cX2_giveBack 2 = .ok (.invokevirtual 50, 3) := by decide +kernel
theorem dX2_giveBack_5 : decode cX2_giveBack 5 = .ok (.astore_n 3, 1) := by decide +kernel
theorem dX2_giveBack_6 : decode cX2_giveBack 6 = .ok (.iload_n 2, 1) := by decide +kernel
theorem dX2_giveBack_7 : decode cX2_giveBack 7 = .ok (.invokestatic 54, 3) := by decide +kernel
theorem dX2_giveBack_10 : decode cX2_giveBack 10 = .ok (.aload_n 3, 1) := by decide +kernel
theorem dX2_giveBack_11 : decode cX2_giveBack 11 = .ok (.invokestatic 77, 3) := by decide +kernel
theorem dX2_giveBack_14 : decode cX2_giveBack 14 = .ok (.aload_n 0, 1) := by decide +kernel
theorem dX2_giveBack_15 : decode cX2_giveBack 15 = .ok (.iload_n 1, 1) := by decide +kernel
theorem dX2_giveBack_16 : decode cX2_giveBack 16 = .ok (.aload_n 3, 1) := by decide +kernel
theorem dX2_giveBack_17 : decode cX2_giveBack 17 = .ok (.iload_n 2, 1) := by decide +kernel
theorem dX2_giveBack_18 : decode cX2_giveBack 18 = .ok (.invokevirtual 81, 3) := by decide +kernel
theorem dX2_giveBack_21 : decode cX2_giveBack 21 = .ok (.ifCond .eq 13, 3) := by decide +kernel
theorem dX2_giveBack_24 : decode cX2_giveBack 24 = .ok (.new 43, 3) := by decide +kernel
theorem dX2_giveBack_27 : decode cX2_giveBack 27 = .ok (.dup, 1) := by decide +kernel
theorem dX2_giveBack_28 : decode cX2_giveBack 28 = .ok (.ldc 85, 2) := by decide +kernel
theorem dX2_giveBack_30 : decode cX2_giveBack 30 = .ok (.invokespecial 47, 3) := by decide +kernel
theorem dX2_giveBack_33 : decode cX2_giveBack 33 = .ok (.athrow, 1) := by decide +kernel
theorem dX2_giveBack_34 : decode cX2_giveBack 34 = .ok (.aload_n 3, 1) := by decide +kernel
theorem dX2_giveBack_35 : decode cX2_giveBack 35 = .ok (.getfield 87, 3) := by decide +kernel
theorem dX2_giveBack_38 : decode cX2_giveBack 38 = .ok (.istore 4, 2) := by decide +kernel
theorem dX2_giveBack_40 : decode cX2_giveBack 40 = .ok (.aload_n 0, 1) := by decide +kernel
theorem dX2_giveBack_41 : decode cX2_giveBack 41 = .ok (.iload_n 1, 1) := by decide +kernel
theorem dX2_giveBack_42 : decode cX2_giveBack 42 = .ok (.aload_n 3, 1) := by decide +kernel
theorem dX2_giveBack_43 : decode cX2_giveBack 43 = .ok (.invokevirtual 90, 3) := by decide +kernel
theorem dX2_giveBack_46 : decode cX2_giveBack 46 = .ok (.iload 4, 2) := by decide +kernel
theorem dX2_giveBack_48 : decode cX2_giveBack 48 = .ok (.ireturn, 1) := by decide +kernel
set_option maxRecDepth 20000 in
theorem ggX2_drill_X2_boxAt : GoodIn wsX2_drill wsX2_boxAt := goodIn_ca (goodIn_r _ [11, 12, 13, 14, 10, 15, 1, 2, 74, 75, 76, 77, 78, 79] (by decide +kernel) (by decide +kernel)) (goodIn_sub (fun _ h => List.mem_cons_of_mem _ (List.mem_append_left _ (List.mem_append_right _ h))) (by decide +kernel))
set_option maxRecDepth 20000 in
theorem gX2_drill_X2_boxAt : GoodIn wsX2_drill (wsV RX2 50 RX2 yX2_boxAt wsX2_boxAt) := goodIn_app (goodIn_of _ (by decide +kernel)) ggX2_drill_X2_boxAt
set_option maxRecDepth 20000 in
theorem ggX2_drill_X2_requirePerson : GoodIn wsX2_drill wsX2_requirePerson := goodIn_ca (goodIn_r _ [18, 13, 14, 10, 15, 1, 2] (by decide +kernel) (by decide +kernel)) (goodIn_sub (fun _ h => List.mem_cons_of_mem _ (List.mem_append_left _ (List.mem_append_right _ h))) (by decide +kernel))
set_option maxRecDepth 20000 in
theorem gX2_drill_X2_requirePerson : GoodIn wsX2_drill (va_wsS RX2 54 yX2_requirePerson wsX2_requirePerson) := goodIn_app (goodIn_of _ (by decide +kernel)) ggX2_drill_X2_requirePerson
set_option maxRecDepth 20000 in
theorem ggX2_drill_X2_requireRented : GoodIn wsX2_drill wsX2_requireRented := goodIn_ca (goodIn_r _ [21, 3, 4, 22, 23, 24, 25, 26, 80, 81, 82, 83, 84, 85, 86, 87, 88, 89] (by decide +kernel) (by decide +kernel)) (goodIn_sub (fun _ h => List.mem_cons_of_mem _ (List.mem_append_right _ h)) (by decide +kernel))
set_option maxRecDepth 20000 in
theorem gX2_drill_X2_requireRented : GoodIn wsX2_drill (va_wsS RX2 77 yX2_requireRented wsX2_requireRented) := goodIn_app (goodIn_of _ (by decide +kernel)) ggX2_drill_X2_requireRented
set_option maxRecDepth 20000 in
theorem ggX2_drill_X0_noticesOn : GoodIn wsX2_drill wsX0_noticesOn := goodIn_r _ [29, 30, 31, 32, 33, 34, 35, 36, 23, 37, 38, 39, 40, 41, 80, 81, 82, 83, 84, 85, 86, 87, 88, 89] (by decide +kernel) (by decide +kernel)
set_option maxRecDepth 20000 in
theorem gX2_drill_X0_noticesOn_n99 : GoodIn wsX2_drill (wsX0_noticesOn) := ggX2_drill_X0_noticesOn
set_option maxRecDepth 20000 in
theorem ggX2_drill_X2_canWitness : GoodIn wsX2_drill wsX2_canWitness := goodIn_r _ [45, 46, 47, 48, 10, 49, 50, 51, 52, 53, 80, 81, 82, 83, 84, 85, 86, 87, 88, 89, 74, 75, 76, 77, 78, 79] (by decide +kernel) (by decide +kernel)
set_option maxRecDepth 20000 in
theorem gX2_drill_X2_canWitness : GoodIn wsX2_drill (wsV RX2 105 RX2 yX2_canWitness wsX2_canWitness) := goodIn_app (goodIn_of _ (by decide +kernel)) ggX2_drill_X2_canWitness
set_option maxRecDepth 20000 in
theorem ggX2_drill_X1_bindingOn : GoodIn wsX2_drill wsX1_bindingOn := goodIn_r _ [57, 58, 59, 60, 61, 90, 91, 92, 93, 94, 95] (by decide +kernel) (by decide +kernel)
set_option maxRecDepth 20000 in
theorem gX2_drill_X1_bindingOn_n111 : GoodIn wsX2_drill (wsX1_bindingOn) := ggX2_drill_X1_bindingOn
set_option maxRecDepth 20000 in
theorem ggX2_drill_X1_kindOf : GoodIn wsX2_drill wsX1_kindOf := goodIn_r _ [64, 65, 66, 67, 68, 55, 69, 58, 90, 91, 92, 93, 94, 95] (by decide +kernel) (by decide +kernel)
set_option maxRecDepth 20000 in
theorem gX2_drill_X1_kindOf_n114 : GoodIn wsX2_drill (wsX1_kindOf) := ggX2_drill_X1_kindOf
set_option maxRecDepth 20000 in
theorem ggX2_drill_X0_breakOpen : GoodIn wsX2_drill wsX0_breakOpen := goodIn_r _ [72, 26, 73, 34, 35, 36, 23, 37, 38, 39, 40, 32, 41, 80, 81, 82, 83, 84, 85, 86, 87, 88, 89] (by decide +kernel) (by decide +kernel)
set_option maxRecDepth 20000 in
theorem gX2_drill_X0_breakOpen_n119 : GoodIn wsX2_drill (wsX0_breakOpen) := ggX2_drill_X0_breakOpen
theorem dX2_drill_0 : decode cX2_drill 0 = .ok (.aload_n 0, 1) := by decide +kernel
theorem dX2_drill_1 : decode cX2_drill 1 = .ok (.iload_n 1, 1) := by decide +kernel
theorem dX2_drill_2 : decode cX2_drill 2 = .ok (.invokevirtual 50, 3) := by decide +kernel
theorem dX2_drill_5 : decode cX2_drill 5 = .ok (.astore 4, 2) := by decide +kernel
theorem dX2_drill_7 : decode cX2_drill 7 = .ok (.iload_n 2, 1) := by decide +kernel
theorem dX2_drill_8 : decode cX2_drill 8 = .ok (.invokestatic 54, 3) := by decide +kernel
theorem dX2_drill_11 : decode cX2_drill 11 = .ok (.iload_n 3, 1) := by decide +kernel
theorem dX2_drill_12 : decode cX2_drill 12 = .ok (.invokestatic 54, 3) := by decide +kernel
theorem dX2_drill_15 : decode cX2_drill 15 = .ok (.iload_n 2, 1) := by decide +kernel
theorem dX2_drill_16 : decode cX2_drill 16 = .ok (.iload_n 3, 1) := by decide +kernel
theorem dX2_drill_17 : decode cX2_drill 17 = .ok (.if_icmp .ne 13, 3) := by decide +kernel
theorem dX2_drill_20 : decode cX2_drill 20 = .ok (.new 94, 3) := by decide +kernel
theorem dX2_drill_23 : decode cX2_drill 23 = .ok (.dup, 1) := by decide +kernel
theorem dX2_drill_24 : decode cX2_drill 24 = .ok (.ldc 96, 2) := by decide +kernel
theorem dX2_drill_26 : decode cX2_drill 26 = .ok (.invokespecial 98, 3) := by decide +kernel
theorem dX2_drill_29 : decode cX2_drill 29 = .ok (.athrow, 1) := by decide +kernel
theorem dX2_drill_30 : decode cX2_drill 30 = .ok (.aload 4, 2) := by decide +kernel
theorem dX2_drill_32 : decode cX2_drill 32 = .ok (.invokestatic 77, 3) := by decide +kernel
theorem dX2_drill_35 : decode cX2_drill 35 = .ok (.aload 4, 2) := by decide +kernel
theorem dX2_drill_37 : decode cX2_drill 37 = .ok (.aload_n 0, 1) := by decide +kernel
theorem dX2_drill_38 : decode cX2_drill 38 = .ok (.getfield 33, 3) := by decide +kernel
theorem dX2_drill_41 : decode cX2_drill 41 = .ok (.invokevirtual 99, 3) := by decide +kernel
theorem dX2_drill_44 : decode cX2_drill 44 = .ok (.iconst 3, 1) := by decide +kernel
theorem dX2_drill_45 : decode cX2_drill 45 = .ok (.if_icmp .ge 13, 3) := by decide +kernel
theorem dX2_drill_48 : decode cX2_drill 48 = .ok (.new 43, 3) := by decide +kernel
theorem dX2_drill_51 : decode cX2_drill 51 = .ok (.dup, 1) := by decide +kernel
theorem dX2_drill_52 : decode cX2_drill 52 = .ok (.ldc 103, 2) := by decide +kernel
theorem dX2_drill_54 : decode cX2_drill 54 = .ok (.invokespecial 47, 3) := by decide +kernel
theorem dX2_drill_57 : decode cX2_drill 57 = .ok (.athrow, 1) := by decide +kernel
theorem dX2_drill_58 : decode cX2_drill 58 = .ok (.aload_n 0, 1) := by decide +kernel
theorem dX2_drill_59 : decode cX2_drill 59 = .ok (.aload 4, 2) := by decide +kernel
theorem dX2_drill_61 : decode cX2_drill 61 = .ok (.iload_n 2, 1) := by decide +kernel
theorem dX2_drill_62 : decode cX2_drill 62 = .ok (.invokevirtual 105, 3) := by decide +kernel
theorem dX2_drill_65 : decode cX2_drill 65 = .ok (.ifCond .eq 13, 3) := by decide +kernel
theorem dX2_drill_68 : decode cX2_drill 68 = .ok (.aload_n 0, 1) := by decide +kernel
theorem dX2_drill_69 : decode cX2_drill 69 = .ok (.aload 4, 2) := by decide +kernel
theorem dX2_drill_71 : decode cX2_drill 71 = .ok (.iload_n 3, 1) := by decide +kernel
theorem dX2_drill_72 : decode cX2_drill 72 = .ok (.invokevirtual 105, 3) := by decide +kernel
theorem dX2_drill_75 : decode cX2_drill 75 = .ok (.ifCond .ne 13, 3) := by decide +kernel
theorem dX2_drill_78 : decode cX2_drill 78 = .ok (.new 43, 3) := by decide +kernel
theorem dX2_drill_81 : decode cX2_drill 81 = .ok (.dup, 1) := by decide +kernel
theorem dX2_drill_82 : decode cX2_drill 82 = .ok (.ldc 109, 2) := by decide +kernel
theorem dX2_drill_84 : decode cX2_drill 84 = .ok (.invokespecial 47, 3) := by decide +kernel
theorem dX2_drill_87 : decode cX2_drill 87 = .ok (.athrow, 1) := by decide +kernel
theorem dX2_drill_88 : decode cX2_drill 88 = .ok (.aload_n 0, 1) := by decide +kernel
theorem dX2_drill_89 : decode cX2_drill 89 = .ok (.getfield 18, 3) := by decide +kernel
theorem dX2_drill_92 : decode cX2_drill 92 = .ok (.aload_n 0, 1) := by decide +kernel
theorem dX2_drill_93 : decode cX2_drill 93 = .ok (.getfield 18, 3) := by decide +kernel
theorem dX2_drill_96 : decode cX2_drill 96 = .ok (.iload_n 1, 1) := by decide +kernel
theorem dX2_drill_97 : decode cX2_drill 97 = .ok (.invokevirtual 111, 3) := by decide +kernel
theorem dX2_drill_100 : decode cX2_drill 100 = .ok (.invokevirtual 114, 3) := by decide +kernel
theorem dX2_drill_103 : decode cX2_drill 103 = .ok (.ifCond .ne 13, 3) := by decide +kernel
theorem dX2_drill_106 : decode cX2_drill 106 = .ok (.new 43, 3) := by decide +kernel
theorem dX2_drill_109 : decode cX2_drill 109 = .ok (.dup, 1) := by decide +kernel
theorem dX2_drill_110 : decode cX2_drill 110 = .ok (.ldc 117, 2) := by decide +kernel
theorem dX2_drill_112 : decode cX2_drill 112 = .ok (.invokespecial 47, 3) := by decide +kernel
theorem dX2_drill_115 : decode cX2_drill 115 = .ok (.athrow, 1) := by decide +kernel
theorem dX2_drill_116 : decode cX2_drill 116 = .ok (.aload 4, 2) := by decide +kernel
theorem dX2_drill_118 : decode cX2_drill 118 = .ok (.aload_n 0, 1) := by decide +kernel
theorem dX2_drill_119 : decode cX2_drill 119 = .ok (.getfield 33, 3) := by decide +kernel
theorem dX2_drill_122 : decode cX2_drill 122 = .ok (.invokevirtual 119, 3) := by decide +kernel
theorem dX2_drill_125 : decode cX2_drill 125 = .ok (.aload 4, 2) := by decide +kernel
theorem dX2_drill_127 : decode cX2_drill 127 = .ok (.getfield 122, 3) := by decide +kernel
theorem dX2_drill_130 : decode cX2_drill 130 = .ok (.ireturn, 1) := by decide +kernel
set_option maxRecDepth 20000 in
theorem ggX2_fetch_X2_boxAt : GoodIn wsX2_fetch wsX2_boxAt := goodIn_ca (goodIn_r _ [7, 8, 9, 10, 6, 11, 12, 13, 91, 92, 93, 94, 95, 96] (by decide +kernel) (by decide +kernel)) (goodIn_sub (fun _ h => List.mem_cons_of_mem _ (List.mem_append_right _ h)) (by decide +kernel))
set_option maxRecDepth 20000 in
theorem gX2_fetch_X2_boxAt : GoodIn wsX2_fetch (wsV RX2 50 RX2 yX2_boxAt wsX2_boxAt) := goodIn_app (goodIn_of _ (by decide +kernel)) ggX2_fetch_X2_boxAt
set_option maxRecDepth 20000 in
theorem ggX2_fetch_X2_requirePerson : GoodIn wsX2_fetch wsX2_requirePerson := goodIn_ca (goodIn_r _ [16, 9, 10, 6, 11, 12, 13] (by decide +kernel) (by decide +kernel)) (goodIn_sub (fun _ h => List.mem_cons_of_mem _ (List.mem_append_right _ h)) (by decide +kernel))
set_option maxRecDepth 20000 in
theorem gX2_fetch_X2_requirePerson : GoodIn wsX2_fetch (va_wsS RX2 54 yX2_requirePerson wsX2_requirePerson) := goodIn_app (goodIn_of _ (by decide +kernel)) ggX2_fetch_X2_requirePerson
set_option maxRecDepth 20000 in
theorem ggX2_fetch_X2_mayFetch : GoodIn wsX2_fetch wsX2_mayFetch := goodIn_r _ [20, 21, 22, 23, 24, 6, 25, 26, 27, 28, 29, 30, 31, 32, 33, 34, 35, 36, 37, 38, 39, 40, 41, 42, 43, 44, 45, 46, 47, 48, 49, 50, 51, 52, 53, 54, 55, 56, 57, 58, 59, 60, 61, 62, 91, 92, 93, 94, 95, 96, 81, 82, 83, 84, 85, 86, 87, 88, 89, 90, 97, 98, 99, 100, 101, 102] (by decide +kernel) (by decide +kernel)
set_option maxRecDepth 20000 in
theorem gX2_fetch_X2_mayFetch : GoodIn wsX2_fetch (wsV RX2 130 RX2 yX2_mayFetch wsX2_mayFetch) := goodIn_app (goodIn_of _ (by decide +kernel)) ggX2_fetch_X2_mayFetch
set_option maxRecDepth 20000 in
theorem ggX2_fetch_X2_makeFree : GoodIn wsX2_fetch wsX2_makeFree := goodIn_r _ [66, 21, 67, 68, 69, 70, 71, 72, 73, 74, 75, 76, 77, 78, 31, 79, 80, 34, 36, 35, 91, 92, 93, 94, 95, 96, 81, 82, 83, 84, 85, 86, 87, 88, 89, 90, 97, 98, 99, 100, 101, 102] (by decide +kernel) (by decide +kernel)
set_option maxRecDepth 20000 in
theorem gX2_fetch_X2_makeFree : GoodIn wsX2_fetch (wsV RX2 90 RX2 yX2_makeFree wsX2_makeFree) := goodIn_app (goodIn_of _ (by decide +kernel)) ggX2_fetch_X2_makeFree
theorem dX2_fetch_0 : decode cX2_fetch 0 = .ok (.aload_n 0, 1) := by decide +kernel
theorem dX2_fetch_1 : decode cX2_fetch 1 = .ok (.iload_n 1, 1) := by decide +kernel
theorem dX2_fetch_2 : decode cX2_fetch 2 = .ok (.invokevirtual 50, 3) := by decide +kernel
theorem dX2_fetch_5 : decode cX2_fetch 5 = .ok (.astore_n 3, 1) := by decide +kernel
theorem dX2_fetch_6 : decode cX2_fetch 6 = .ok (.iload_n 2, 1) := by decide +kernel
theorem dX2_fetch_7 : decode cX2_fetch 7 = .ok (.invokestatic 54, 3) := by decide +kernel
theorem dX2_fetch_10 : decode cX2_fetch 10 = .ok (.aload_n 3, 1) := by decide +kernel
theorem dX2_fetch_11 : decode cX2_fetch 11 = .ok (.getfield 125, 3) := by decide +kernel
theorem dX2_fetch_14 : decode cX2_fetch 14 = .ok (.iconst 2, 1) := by decide +kernel
theorem dX2_fetch_15 : decode cX2_fetch 15 = .ok (.if_icmp .eq 13, 3) := by decide +kernel
theorem dX2_fetch_18 : decode cX2_fetch 18 = .ok (.new 43, 3) := by decide +kernel
theorem dX2_fetch_21 : decode cX2_fetch 21 = .ok (.dup, 1) := by decide +kernel
theorem dX2_fetch_22 : decode cX2_fetch 22 = .ok (.ldc 128, 2) := by decide +kernel
theorem dX2_fetch_24 : decode cX2_fetch 24 = .ok (.invokespecial 47, 3) := by decide +kernel
theorem dX2_fetch_27 : decode cX2_fetch 27 = .ok (.athrow, 1) := by decide +kernel
theorem dX2_fetch_28 : decode cX2_fetch 28 = .ok (.aload_n 0, 1) := by decide +kernel
theorem dX2_fetch_29 : decode cX2_fetch 29 = .ok (.iload_n 1, 1) := by decide +kernel
theorem dX2_fetch_30 : decode cX2_fetch 30 = .ok (.aload_n 3, 1) := by decide +kernel
theorem dX2_fetch_31 : decode cX2_fetch 31 = .ok (.iload_n 2, 1) := by decide +kernel
theorem dX2_fetch_32 : decode cX2_fetch 32 = .ok (.invokevirtual 130, 3) := by decide +kernel
theorem dX2_fetch_35 : decode cX2_fetch 35 = .ok (.ifCond .ne 13, 3) := by decide +kernel
theorem dX2_fetch_38 : decode cX2_fetch 38 = .ok (.new 43, 3) := by decide +kernel
theorem dX2_fetch_41 : decode cX2_fetch 41 = .ok (.dup, 1) := by decide +kernel
theorem dX2_fetch_42 : decode cX2_fetch 42 = .ok (.ldc 134, 2) := by decide +kernel
theorem dX2_fetch_44 : decode cX2_fetch 44 = .ok (.invokespecial 47, 3) := by decide +kernel
theorem dX2_fetch_47 : decode cX2_fetch 47 = .ok (.athrow, 1) := by decide +kernel
theorem dX2_fetch_48 : decode cX2_fetch 48 = .ok (.aload_n 3, 1) := by decide +kernel
theorem dX2_fetch_49 : decode cX2_fetch 49 = .ok (.getfield 122, 3) := by decide +kernel
theorem dX2_fetch_52 : decode cX2_fetch 52 = .ok (.istore 4, 2) := by decide +kernel
theorem dX2_fetch_54 : decode cX2_fetch 54 = .ok (.aload_n 0, 1) := by decide +kernel
theorem dX2_fetch_55 : decode cX2_fetch 55 = .ok (.iload_n 1, 1) := by decide +kernel
theorem dX2_fetch_56 : decode cX2_fetch 56 = .ok (.aload_n 3, 1) := by decide +kernel
theorem dX2_fetch_57 : decode cX2_fetch 57 = .ok (.invokevirtual 90, 3) := by decide +kernel
theorem dX2_fetch_60 : decode cX2_fetch 60 = .ok (.iload 4, 2) := by decide +kernel
theorem dX2_fetch_62 : decode cX2_fetch 62 = .ok (.ireturn, 1) := by decide +kernel
set_option maxRecDepth 20000 in
theorem ggX2_proxy_X2_boxAt : GoodIn wsX2_proxy wsX2_boxAt := goodIn_ca (goodIn_r _ [8, 9, 10, 11, 7, 12, 13, 14, 51, 52, 53, 54, 55, 56] (by decide +kernel) (by decide +kernel)) (goodIn_sub (fun _ h => List.mem_cons_of_mem _ (List.mem_append_right _ h)) (by decide +kernel))
set_option maxRecDepth 20000 in
theorem gX2_proxy_X2_boxAt : GoodIn wsX2_proxy (wsV RX2 50 RX2 yX2_boxAt wsX2_boxAt) := goodIn_app (goodIn_of _ (by decide +kernel)) ggX2_proxy_X2_boxAt
set_option maxRecDepth 20000 in
theorem ggX2_proxy_X2_requirePerson : GoodIn wsX2_proxy wsX2_requirePerson := goodIn_ca (goodIn_r _ [17, 10, 11, 7, 12, 13, 14] (by decide +kernel) (by decide +kernel)) (goodIn_sub (fun _ h => List.mem_cons_of_mem _ (List.mem_append_right _ h)) (by decide +kernel))
set_option maxRecDepth 20000 in
theorem gX2_proxy_X2_requirePerson : GoodIn wsX2_proxy (va_wsS RX2 54 yX2_requirePerson wsX2_requirePerson) := goodIn_app (goodIn_of _ (by decide +kernel)) ggX2_proxy_X2_requirePerson
set_option maxRecDepth 20000 in
theorem ggX2_proxy_X2_requireRange : GoodIn wsX2_proxy wsX2_requireRange := goodIn_ca (goodIn_r _ [12, 13, 14] (by decide +kernel) (by decide +kernel)) (goodIn_sub (fun _ h => List.mem_cons_of_mem _ (List.mem_append_right _ h)) (by decide +kernel))
set_option maxRecDepth 20000 in
theorem gX2_proxy_X2_requireRange : GoodIn wsX2_proxy (va_wsS RX2 38 yX2_requireRange wsX2_requireRange) := goodIn_app (goodIn_of _ (by decide +kernel)) ggX2_proxy_X2_requireRange
set_option maxRecDepth 20000 in
theorem ggX2_proxy_X2_requireRented : GoodIn wsX2_proxy wsX2_requireRented := goodIn_ca (goodIn_r _ [20, 1, 2, 21, 22, 23, 24, 25, 41, 42, 43, 44, 45, 46, 47, 48, 49, 50] (by decide +kernel) (by decide +kernel)) (goodIn_sub (fun _ h => List.mem_cons_of_mem _ (List.mem_append_left _ (List.mem_append_right _ h))) (by decide +kernel))
set_option maxRecDepth 20000 in
theorem gX2_proxy_X2_requireRented : GoodIn wsX2_proxy (va_wsS RX2 77 yX2_requireRented wsX2_requireRented) := goodIn_app (goodIn_of _ (by decide +kernel)) ggX2_proxy_X2_requireRented
set_option maxRecDepth 20000 in
theorem ggX2_proxy_X2_isAlive : GoodIn wsX2_proxy wsX2_isAlive := goodIn_r _ [29, 30, 31, 32, 7, 33, 51, 52, 53, 54, 55, 56] (by decide +kernel) (by decide +kernel)
set_option maxRecDepth 20000 in
theorem gX2_proxy_X2_isAlive : GoodIn wsX2_proxy (wsV RX2 64 RX2 yX2_isAlive wsX2_isAlive) := goodIn_app (goodIn_of _ (by decide +kernel)) ggX2_proxy_X2_isAlive
set_option maxRecDepth 20000 in
theorem ggX2_proxy_X0_addProxy : GoodIn wsX2_proxy wsX0_addProxy := goodIn_r _ [36, 37, 38, 39, 40, 41, 42, 43, 44, 45, 46, 47, 48, 49, 50] (by decide +kernel) (by decide +kernel)
set_option maxRecDepth 20000 in
theorem gX2_proxy_X0_addProxy_n148 : GoodIn wsX2_proxy (wsX0_addProxy) := ggX2_proxy_X0_addProxy
theorem dX2_proxy_0 : decode cX2_proxy 0 = .ok (.aload_n 0, 1) := by decide +kernel
theorem dX2_proxy_1 : decode cX2_proxy 1 = .ok (.iload_n 1, 1) := by decide +kernel
theorem dX2_proxy_2 : decode cX2_proxy 2 = .ok (.invokevirtual 50, 3) := by decide +kernel
theorem dX2_proxy_5 : decode cX2_proxy 5 = .ok (.astore 5, 2) := by decide +kernel
theorem dX2_proxy_7 : decode cX2_proxy 7 = .ok (.iload_n 2, 1) := by decide +kernel
theorem dX2_proxy_8 : decode cX2_proxy 8 = .ok (.invokestatic 54, 3) := by decide +kernel
theorem dX2_proxy_11 : decode cX2_proxy 11 = .ok (.iload_n 3, 1) := by decide +kernel
theorem dX2_proxy_12 : decode cX2_proxy 12 = .ok (.iconst 0, 1) := by decide +kernel
theorem dX2_proxy_13 : decode cX2_proxy 13 = .ok (.ldc 42, 2) := by decide +kernel
theorem dX2_proxy_15 : decode cX2_proxy 15 = .ok (.invokestatic 38, 3) := by decide +kernel
theorem dX2_proxy_18 : decode cX2_proxy 18 = .ok (.iload 4, 2) := by decide +kernel
theorem dX2_proxy_20 : decode cX2_proxy 20 = .ok (.iload_n 3, 1) := by decide +kernel
theorem dX2_proxy_21 : decode cX2_proxy 21 = .ok (.ldc 42, 2) := by decide +kernel
theorem dX2_proxy_23 : decode cX2_proxy 23 = .ok (.invokestatic 38, 3) := by decide +kernel
theorem dX2_proxy_26 : decode cX2_proxy 26 = .ok (.aload 5, 2) := by decide +kernel
theorem dX2_proxy_28 : decode cX2_proxy 28 = .ok (.invokestatic 77, 3) := by decide +kernel
theorem dX2_proxy_31 : decode cX2_proxy 31 = .ok (.aload_n 0, 1) := by decide +kernel
theorem dX2_proxy_32 : decode cX2_proxy 32 = .ok (.aload 5, 2) := by decide +kernel
theorem dX2_proxy_34 : decode cX2_proxy 34 = .ok (.getfield 136, 3) := by decide +kernel
theorem dX2_proxy_37 : decode cX2_proxy 37 = .ok (.invokevirtual 64, 3) := by decide +kernel
theorem dX2_proxy_40 : decode cX2_proxy 40 = .ok (.ifCond .ne 13, 3) := by decide +kernel
theorem dX2_proxy_43 : decode cX2_proxy 43 = .ok (.new 43, 3) := by decide +kernel
theorem dX2_proxy_46 : decode cX2_proxy 46 = .ok (.dup, 1) := by decide +kernel
theorem dX2_proxy_47 : decode cX2_proxy 47 = .ok (.ldc 139, 2) := by decide +kernel
theorem dX2_proxy_49 : decode cX2_proxy 49 = .ok (.invokespecial 47, 3) := by decide +kernel
theorem dX2_proxy_52 : decode cX2_proxy 52 = .ok (.athrow, 1) := by decide +kernel
theorem dX2_proxy_53 : decode cX2_proxy 53 = .ok (.iload_n 2, 1) := by decide +kernel
theorem dX2_proxy_54 : decode cX2_proxy 54 = .ok (.aload 5, 2) := by decide +kernel
theorem dX2_proxy_56 : decode cX2_proxy 56 = .ok (.getfield 136, 3) := by decide +kernel
theorem dX2_proxy_59 : decode cX2_proxy 59 = .ok (.if_icmp .ne 13, 3) := by decide +kernel
theorem dX2_proxy_62 : decode cX2_proxy 62 = .ok (.new 43, 3) := by decide +kernel
theorem dX2_proxy_65 : decode cX2_proxy 65 = .ok (.dup, 1) := by decide +kernel
theorem dX2_proxy_66 : decode cX2_proxy 66 = .ok (.ldc 141, 2) := by decide +kernel
theorem dX2_proxy_68 : decode cX2_proxy 68 = .ok (.invokespecial 47, 3) := by decide +kernel
theorem dX2_proxy_71 : decode cX2_proxy 71 = .ok (.athrow, 1) := by decide +kernel
theorem dX2_proxy_72 : decode cX2_proxy 72 = .ok (.aload 5, 2) := by decide +kernel
theorem dX2_proxy_74 : decode cX2_proxy 74 = .ok (.getfield 143, 3) := by decide +kernel
theorem dX2_proxy_77 : decode cX2_proxy 77 = .ok (.iconst 5, 1) := by decide +kernel
theorem dX2_proxy_78 : decode cX2_proxy 78 = .ok (.if_icmp .lt 13, 3) := by decide +kernel
theorem dX2_proxy_81 : decode cX2_proxy 81 = .ok (.new 43, 3) := by decide +kernel
theorem dX2_proxy_84 : decode cX2_proxy 84 = .ok (.dup, 1) := by decide +kernel
theorem dX2_proxy_85 : decode cX2_proxy 85 = .ok (.ldc 146, 2) := by decide +kernel
theorem dX2_proxy_87 : decode cX2_proxy 87 = .ok (.invokespecial 47, 3) := by decide +kernel
theorem dX2_proxy_90 : decode cX2_proxy 90 = .ok (.athrow, 1) := by decide +kernel
theorem dX2_proxy_91 : decode cX2_proxy 91 = .ok (.aload 5, 2) := by decide +kernel
theorem dX2_proxy_93 : decode cX2_proxy 93 = .ok (.iload_n 2, 1) := by decide +kernel
theorem dX2_proxy_94 : decode cX2_proxy 94 = .ok (.iload_n 3, 1) := by decide +kernel
theorem dX2_proxy_95 : decode cX2_proxy 95 = .ok (.iload 4, 2) := by decide +kernel
theorem dX2_proxy_97 : decode cX2_proxy 97 = .ok (.invokevirtual 148, 3) := by decide +kernel
theorem dX2_proxy_100 : decode cX2_proxy 100 = .ok (.aload 5, 2) := by decide +kernel
theorem dX2_proxy_102 : decode cX2_proxy 102 = .ok (.getfield 143, 3) := by decide +kernel
theorem dX2_proxy_105 : decode cX2_proxy 105 = .ok (.ireturn, 1) := by decide +kernel
set_option maxRecDepth 20000 in
theorem ggX2_heir_X2_requirePerson : GoodIn wsX2_heir wsX2_requirePerson := goodIn_ca (goodIn_r _ [7, 8, 9, 6, 10, 1, 2] (by decide +kernel) (by decide +kernel)) (goodIn_sub (fun _ h => List.mem_cons_of_mem _ (List.mem_append_right _ h)) (by decide +kernel))
set_option maxRecDepth 20000 in
theorem gX2_heir_X2_requirePerson : GoodIn wsX2_heir (va_wsS RX2 54 yX2_requirePerson wsX2_requirePerson) := goodIn_app (goodIn_of _ (by decide +kernel)) ggX2_heir_X2_requirePerson
set_option maxRecDepth 20000 in
theorem ggX2_heir_X2_isHeir : GoodIn wsX2_heir wsX2_isHeir := goodIn_r _ [14, 3, 15, 16, 6, 17, 18, 19, 20, 21, 22, 23] (by decide +kernel) (by decide +kernel)
set_option maxRecDepth 20000 in
theorem gX2_heir_X2_isHeir : GoodIn wsX2_heir (wsV RX2 153 RX2 yX2_isHeir wsX2_isHeir) := goodIn_app (goodIn_of _ (by decide +kernel)) ggX2_heir_X2_isHeir
theorem dX2_heir_0 : decode cX2_heir 0 = .ok (.iload_n 1, 1) := by decide +kernel
theorem dX2_heir_1 : decode cX2_heir 1 = .ok (.invokestatic 54, 3) := by decide +kernel
theorem dX2_heir_4 : decode cX2_heir 4 = .ok (.iload_n 2, 1) := by decide +kernel
theorem dX2_heir_5 : decode cX2_heir 5 = .ok (.invokestatic 54, 3) := by decide +kernel
theorem dX2_heir_8 : decode cX2_heir 8 = .ok (.iload_n 1, 1) := by decide +kernel
theorem dX2_heir_9 : decode cX2_heir 9 = .ok (.iload_n 2, 1) := by decide +kernel
theorem dX2_heir_10 : decode cX2_heir 10 = .ok (.if_icmp .ne 13, 3) := by decide +kernel
theorem dX2_heir_13 : decode cX2_heir 13 = .ok (.new 94, 3) := by decide +kernel
theorem dX2_heir_16 : decode cX2_heir 16 = .ok (.dup, 1) := by decide +kernel
theorem dX2_heir_17 : decode cX2_heir 17 = .ok (.ldc 151, 2) := by decide +kernel
theorem dX2_heir_19 : decode cX2_heir 19 = .ok (.invokespecial 98, 3) := by decide +kernel
theorem dX2_heir_22 : decode cX2_heir 22 = .ok (.athrow, 1) := by decide +kernel
theorem dX2_heir_23 : decode cX2_heir 23 = .ok (.aload_n 0, 1) := by decide +kernel
theorem dX2_heir_24 : decode cX2_heir 24 = .ok (.iload_n 2, 1) := by decide +kernel
theorem dX2_heir_25 : decode cX2_heir 25 = .ok (.iload_n 1, 1) := by decide +kernel
theorem dX2_heir_26 : decode cX2_heir 26 = .ok (.invokevirtual 153, 3) := by decide +kernel
theorem dX2_heir_29 : decode cX2_heir 29 = .ok (.istore 4, 2) := by decide +kernel
theorem dX2_heir_31 : decode cX2_heir 31 = .ok (.iconst 1, 1) := by decide +kernel
theorem dX2_heir_32 : decode cX2_heir 32 = .ok (.iload_n 2, 1) := by decide +kernel
theorem dX2_heir_33 : decode cX2_heir 33 = .ok (.ishl, 1) := by decide +kernel
theorem dX2_heir_34 : decode cX2_heir 34 = .ok (.istore 5, 2) := by decide +kernel
theorem dX2_heir_36 : decode cX2_heir 36 = .ok (.aload_n 0, 1) := by decide +kernel
theorem dX2_heir_37 : decode cX2_heir 37 = .ok (.getfield 26, 3) := by decide +kernel
theorem dX2_heir_40 : decode cX2_heir 40 = .ok (.iload_n 1, 1) := by decide +kernel
theorem dX2_heir_41 : decode cX2_heir 41 = .ok (.iload_n 3, 1) := by decide +kernel
theorem dX2_heir_42 : decode cX2_heir 42 = .ok (.ifCond .eq 15, 3) := by decide +kernel
theorem dX2_heir_45 : decode cX2_heir 45 = .ok (.aload_n 0, 1) := by decide +kernel
theorem dX2_heir_46 : decode cX2_heir 46 = .ok (.getfield 26, 3) := by decide +kernel
theorem dX2_heir_49 : decode cX2_heir 49 = .ok (.iload_n 1, 1) := by decide +kernel
theorem dX2_heir_50 : decode cX2_heir 50 = .ok (.iaload, 1) := by decide +kernel
theorem dX2_heir_51 : decode cX2_heir 51 = .ok (.iload 5, 2) := by decide +kernel
theorem dX2_heir_53 : decode cX2_heir 53 = .ok (.ior, 1) := by decide +kernel
theorem dX2_heir_54 : decode cX2_heir 54 = .ok (.goto 14, 3) := by decide +kernel
theorem dX2_heir_57 : decode cX2_heir 57 = .ok (.aload_n 0, 1) := by decide +kernel
theorem dX2_heir_58 : decode cX2_heir 58 = .ok (.getfield 26, 3) := by decide +kernel
theorem dX2_heir_61 : decode cX2_heir 61 = .ok (.iload_n 1, 1) := by decide +kernel
theorem dX2_heir_62 : decode cX2_heir 62 = .ok (.iaload, 1) := by decide +kernel
theorem dX2_heir_63 : decode cX2_heir 63 = .ok (.iload 5, 2) := by decide +kernel
theorem dX2_heir_65 : decode cX2_heir 65 = .ok (.iconst (-1), 1) := by decide +kernel
theorem dX2_heir_66 : decode cX2_heir 66 = .ok (.ixor, 1) := by decide +kernel
theorem dX2_heir_67 : decode cX2_heir 67 = .ok (.iand, 1) := by decide +kernel
theorem dX2_heir_68 : decode cX2_heir 68 = .ok (.iastore, 1) := by decide +kernel
theorem dX2_heir_69 : decode cX2_heir 69 = .ok (.iload 4, 2) := by decide +kernel
theorem dX2_heir_71 : decode cX2_heir 71 = .ok (.ireturn, 1) := by decide +kernel
set_option maxRecDepth 20000 in
theorem ggX2_die_X2_requirePerson : GoodIn wsX2_die wsX2_requirePerson := goodIn_ca (goodIn_r _ [8, 9, 10, 7, 11, 12, 13] (by decide +kernel) (by decide +kernel)) (goodIn_sub (fun _ h => List.mem_cons_of_mem _ (List.mem_append_right _ h)) (by decide +kernel))
set_option maxRecDepth 20000 in
theorem gX2_die_X2_requirePerson : GoodIn wsX2_die (va_wsS RX2 54 yX2_requirePerson wsX2_requirePerson) := goodIn_app (goodIn_of _ (by decide +kernel)) ggX2_die_X2_requirePerson
set_option maxRecDepth 20000 in
theorem ggX2_die_X0_endProxies : GoodIn wsX2_die wsX0_endProxies := goodIn_r _ [17, 18, 29, 30, 31, 32, 33, 34, 35, 36, 37, 38] (by decide +kernel) (by decide +kernel)
set_option maxRecDepth 20000 in
theorem gX2_die_X0_endProxies_n157 : GoodIn wsX2_die (wsX0_endProxies) := ggX2_die_X0_endProxies
set_option maxRecDepth 20000 in
theorem ggX2_die_X0_isRented : GoodIn wsX2_die wsX0_isRented := goodIn_r _ [21, 22, 29, 30, 31, 32, 33, 34, 35, 36, 37, 38] (by decide +kernel) (by decide +kernel)
set_option maxRecDepth 20000 in
theorem gX2_die_X0_isRented_n160 : GoodIn wsX2_die (wsX0_isRented) := ggX2_die_X0_isRented
theorem dX2_die_0 : decode cX2_die 0 = .ok (.iload_n 1, 1) := by decide +kernel
theorem dX2_die_1 : decode cX2_die 1 = .ok (.invokestatic 54, 3) := by decide +kernel
theorem dX2_die_4 : decode cX2_die 4 = .ok (.aload_n 0, 1) := by decide +kernel
theorem dX2_die_5 : decode cX2_die 5 = .ok (.getfield 22, 3) := by decide +kernel
theorem dX2_die_8 : decode cX2_die 8 = .ok (.iload_n 1, 1) := by decide +kernel
theorem dX2_die_9 : decode cX2_die 9 = .ok (.baload, 1) := by decide +kernel
theorem dX2_die_10 : decode cX2_die 10 = .ok (.ifCond .eq 13, 3) := by decide +kernel
theorem dX2_die_13 : decode cX2_die 13 = .ok (.new 43, 3) := by decide +kernel
theorem dX2_die_16 : decode cX2_die 16 = .ok (.dup, 1) := by decide +kernel
theorem dX2_die_17 : decode cX2_die 17 = .ok (.ldc 68, 2) := by decide +kernel
theorem dX2_die_19 : decode cX2_die 19 = .ok (.invokespecial 47, 3) := by decide +kernel
theorem dX2_die_22 : decode cX2_die 22 = .ok (.athrow, 1) := by decide +kernel
theorem dX2_die_23 : decode cX2_die 23 = .ok (.aload_n 0, 1) := by decide +kernel
theorem dX2_die_24 : decode cX2_die 24 = .ok (.getfield 22, 3) := by decide +kernel
theorem dX2_die_27 : decode cX2_die 27 = .ok (.iload_n 1, 1) := by decide +kernel
theorem dX2_die_28 : decode cX2_die 28 = .ok (.iconst 1, 1) := by decide +kernel
theorem dX2_die_29 : decode cX2_die 29 = .ok (.bastore, 1) := by decide +kernel
theorem dX2_die_30 : decode cX2_die 30 = .ok (.iconst 0, 1) := by decide +kernel
theorem dX2_die_31 : decode cX2_die 31 = .ok (.istore_n 2, 1) := by decide +kernel
theorem dX2_die_32 : decode cX2_die 32 = .ok (.iconst 0, 1) := by decide +kernel
theorem dX2_die_33 : decode cX2_die 33 = .ok (.istore_n 3, 1) := by decide +kernel
theorem dX2_die_34 : decode cX2_die 34 = .ok (.iload_n 3, 1) := by decide +kernel
theorem dX2_die_35 : decode cX2_die 35 = .ok (.bipush 8, 2) := by decide +kernel
theorem dX2_die_37 : decode cX2_die 37 = .ok (.if_icmp .ge 51, 3) := by decide +kernel
theorem dX2_die_40 : decode cX2_die 40 = .ok (.aload_n 0, 1) := by decide +kernel
theorem dX2_die_41 : decode cX2_die 41 = .ok (.getfield 11, 3) := by decide +kernel
theorem dX2_die_44 : decode cX2_die 44 = .ok (.iload_n 3, 1) := by decide +kernel
theorem dX2_die_45 : decode cX2_die 45 = .ok (.aaload, 1) := by decide +kernel
theorem dX2_die_46 : decode cX2_die 46 = .ok (.getfield 136, 3) := by decide +kernel
theorem dX2_die_49 : decode cX2_die 49 = .ok (.iload_n 1, 1) := by decide +kernel
theorem dX2_die_50 : decode cX2_die 50 = .ok (.if_icmp .ne 32, 3) := by decide +kernel
theorem dX2_die_53 : decode cX2_die 53 = .ok (.aload_n 0, 1) := by decide +kernel
theorem dX2_die_54 : decode cX2_die 54 = .ok (.getfield 11, 3) := by decide +kernel
theorem dX2_die_57 : decode cX2_die 57 = .ok (.iload_n 3, 1) := by decide +kernel
theorem dX2_die_58 : decode cX2_die 58 = .ok (.aaload, 1) := by decide +kernel
theorem dX2_die_59 : decode cX2_die 59 = .ok (.invokevirtual 157, 3) := by decide +kernel
theorem dX2_die_62 : decode cX2_die 62 = .ok (.iload_n 2, 1) := by decide +kernel
theorem dX2_die_63 : decode cX2_die 63 = .ok (.aload_n 0, 1) := by decide +kernel
theorem dX2_die_64 : decode cX2_die 64 = .ok (.getfield 11, 3) := by decide +kernel
theorem dX2_die_67 : decode cX2_die 67 = .ok (.iload_n 3, 1) := by decide +kernel
theorem dX2_die_68 : decode cX2_die 68 = .ok (.aaload, 1) := by decide +kernel
theorem dX2_die_69 : decode cX2_die 69 = .ok (.invokevirtual 160, 3) := by decide +kernel
theorem dX2_die_72 : decode cX2_die 72 = .ok (.ifCond .eq 7, 3) := by decide +kernel
theorem dX2_die_75 : decode cX2_die 75 = .ok (.iconst 1, 1) := by decide +kernel
theorem dX2_die_76 : decode cX2_die 76 = .ok (.goto 4, 3) := by decide +kernel
theorem dX2_die_79 : decode cX2_die 79 = .ok (.iconst 0, 1) := by decide +kernel
theorem dX2_die_80 : decode cX2_die 80 = .ok (.iadd, 1) := by decide +kernel
theorem dX2_die_81 : decode cX2_die 81 = .ok (.istore_n 2, 1) := by decide +kernel
theorem dX2_die_82 : decode cX2_die 82 = .ok (.iinc 3 1, 3) := by decide +kernel
theorem dX2_die_85 : decode cX2_die 85 = .ok (.goto (-51), 3) := by decide +kernel
theorem dX2_die_88 : decode cX2_die 88 = .ok (.iload_n 2, 1) := by decide +kernel
theorem dX2_die_89 : decode cX2_die 89 = .ok (.ireturn, 1) := by decide +kernel
set_option maxRecDepth 20000 in
theorem ggX2_order_X2_boxAt : GoodIn wsX2_order wsX2_boxAt := goodIn_ca (goodIn_r _ [8, 9, 10, 11, 7, 12, 13, 14, 36, 37, 38, 39, 40, 41] (by decide +kernel) (by decide +kernel)) (goodIn_sub (fun _ h => List.mem_cons_of_mem _ (List.mem_append_right _ h)) (by decide +kernel))
set_option maxRecDepth 20000 in
theorem gX2_order_X2_boxAt : GoodIn wsX2_order (wsV RX2 50 RX2 yX2_boxAt wsX2_boxAt) := goodIn_app (goodIn_of _ (by decide +kernel)) ggX2_order_X2_boxAt
set_option maxRecDepth 20000 in
theorem ggX2_order_X2_requireRange : GoodIn wsX2_order wsX2_requireRange := goodIn_ca (goodIn_r _ [12, 13, 14] (by decide +kernel) (by decide +kernel)) (goodIn_sub (fun _ h => List.mem_cons_of_mem _ (List.mem_append_right _ h)) (by decide +kernel))
set_option maxRecDepth 20000 in
theorem gX2_order_X2_requireRange : GoodIn wsX2_order (va_wsS RX2 38 yX2_requireRange wsX2_requireRange) := goodIn_app (goodIn_of _ (by decide +kernel)) ggX2_order_X2_requireRange
set_option maxRecDepth 20000 in
theorem ggX2_order_X2_requirePerson : GoodIn wsX2_order wsX2_requirePerson := goodIn_ca (goodIn_r _ [17, 10, 11, 7, 12, 13, 14] (by decide +kernel) (by decide +kernel)) (goodIn_sub (fun _ h => List.mem_cons_of_mem _ (List.mem_append_right _ h)) (by decide +kernel))
set_option maxRecDepth 20000 in
theorem gX2_order_X2_requirePerson : GoodIn wsX2_order (va_wsS RX2 54 yX2_requirePerson wsX2_requirePerson) := goodIn_app (goodIn_of _ (by decide +kernel)) ggX2_order_X2_requirePerson
set_option maxRecDepth 20000 in
theorem ggX2_order_X0_isFree : GoodIn wsX2_order wsX0_isFree := goodIn_r _ [21, 22, 42, 43, 44, 45, 46, 47, 48, 49, 50, 51] (by decide +kernel) (by decide +kernel)
set_option maxRecDepth 20000 in
theorem gX2_order_X0_isFree_n58 : GoodIn wsX2_order (wsX0_isFree) := ggX2_order_X0_isFree
set_option maxRecDepth 20000 in
theorem ggX2_order_X1_isFull : GoodIn wsX2_order wsX1_isFull := goodIn_r _ [26, 27, 52, 53, 54, 55, 56, 57] (by decide +kernel) (by decide +kernel)
set_option maxRecDepth 20000 in
theorem gX2_order_X1_isFull_n165 : GoodIn wsX2_order (wsX1_isFull) := ggX2_order_X1_isFull
set_option maxRecDepth 20000 in
theorem ggX2_order_X1_add : GoodIn wsX2_order wsX1_add := goodIn_r _ [30, 27, 31, 32, 33, 34, 35, 52, 53, 54, 55, 56, 57] (by decide +kernel) (by decide +kernel)
set_option maxRecDepth 20000 in
theorem gX2_order_X1_add_n170 : GoodIn wsX2_order (wsX1_add) := ggX2_order_X1_add
theorem dX2_order_0 : decode cX2_order 0 = .ok (.aload_n 0, 1) := by decide +kernel
theorem dX2_order_1 : decode cX2_order 1 = .ok (.iload_n 1, 1) := by decide +kernel
theorem dX2_order_2 : decode cX2_order 2 = .ok (.invokevirtual 50, 3) := by decide +kernel
theorem dX2_order_5 : decode cX2_order 5 = .ok (.astore 5, 2) := by decide +kernel
theorem dX2_order_7 : decode cX2_order 7 = .ok (.iload_n 2, 1) := by decide +kernel
theorem dX2_order_8 : decode cX2_order 8 = .ok (.iconst 0, 1) := by decide +kernel
theorem dX2_order_9 : decode cX2_order 9 = .ok (.iconst 1, 1) := by decide +kernel
theorem dX2_order_10 : decode cX2_order 10 = .ok (.invokestatic 38, 3) := by decide +kernel
theorem dX2_order_13 : decode cX2_order 13 = .ok (.iload_n 3, 1) := by decide +kernel
theorem dX2_order_14 : decode cX2_order 14 = .ok (.iconst 0, 1) := by decide +kernel
theorem dX2_order_15 : decode cX2_order 15 = .ok (.iconst 2, 1) := by decide +kernel
theorem dX2_order_16 : decode cX2_order 16 = .ok (.invokestatic 38, 3) := by decide +kernel
theorem dX2_order_19 : decode cX2_order 19 = .ok (.iload_n 3, 1) := by decide +kernel
theorem dX2_order_20 : decode cX2_order 20 = .ok (.iconst 1, 1) := by decide +kernel
theorem dX2_order_21 : decode cX2_order 21 = .ok (.if_icmp .ne 8, 3) := by decide +kernel
theorem dX2_order_24 : decode cX2_order 24 = .ok (.iload 4, 2) := by decide +kernel
theorem dX2_order_26 : decode cX2_order 26 = .ok (.invokestatic 54, 3) := by decide +kernel
theorem dX2_order_29 : decode cX2_order 29 = .ok (.aload 5, 2) := by decide +kernel
theorem dX2_order_31 : decode cX2_order 31 = .ok (.invokevirtual 58, 3) := by decide +kernel
theorem dX2_order_34 : decode cX2_order 34 = .ok (.ifCond .eq 13, 3) := by decide +kernel
theorem dX2_order_37 : decode cX2_order 37 = .ok (.new 43, 3) := by decide +kernel
theorem dX2_order_40 : decode cX2_order 40 = .ok (.dup, 1) := by decide +kernel
theorem dX2_order_41 : decode cX2_order 41 = .ok (.ldc 163, 2) := by decide +kernel
theorem dX2_order_43 : decode cX2_order 43 = .ok (.invokespecial 47, 3) := by decide +kernel
theorem dX2_order_46 : decode cX2_order 46 = .ok (.athrow, 1) := by decide +kernel
theorem dX2_order_47 : decode cX2_order 47 = .ok (.aload_n 0, 1) := by decide +kernel
theorem dX2_order_48 : decode cX2_order 48 = .ok (.getfield 18, 3) := by decide +kernel
theorem dX2_order_51 : decode cX2_order 51 = .ok (.invokevirtual 165, 3) := by decide +kernel
theorem dX2_order_54 : decode cX2_order 54 = .ok (.ifCond .eq 13, 3) := by decide +kernel
theorem dX2_order_57 : decode cX2_order 57 = .ok (.new 43, 3) := by decide +kernel
theorem dX2_order_60 : decode cX2_order 60 = .ok (.dup, 1) := by decide +kernel
theorem dX2_order_61 : decode cX2_order 61 = .ok (.ldc 168, 2) := by decide +kernel
theorem dX2_order_63 : decode cX2_order 63 = .ok (.invokespecial 47, 3) := by decide +kernel
theorem dX2_order_66 : decode cX2_order 66 = .ok (.athrow, 1) := by decide +kernel
theorem dX2_order_67 : decode cX2_order 67 = .ok (.aload_n 0, 1) := by decide +kernel
theorem dX2_order_68 : decode cX2_order 68 = .ok (.getfield 18, 3) := by decide +kernel
theorem dX2_order_71 : decode cX2_order 71 = .ok (.iload_n 1, 1) := by decide +kernel
theorem dX2_order_72 : decode cX2_order 72 = .ok (.iload_n 2, 1) := by decide +kernel
theorem dX2_order_73 : decode cX2_order 73 = .ok (.iload_n 3, 1) := by decide +kernel
theorem dX2_order_74 : decode cX2_order 74 = .ok (.iload 4, 2) := by decide +kernel
theorem dX2_order_76 : decode cX2_order 76 = .ok (.invokevirtual 170, 3) := by decide +kernel
theorem dX2_order_79 : decode cX2_order 79 = .ok (.ireturn, 1) := by decide +kernel
set_option maxRecDepth 20000 in
theorem ggX2_lift_X1_has : GoodIn wsX2_lift wsX1_has := goodIn_r _ [9, 10, 34, 35, 36, 37, 38, 39] (by decide +kernel) (by decide +kernel)
set_option maxRecDepth 20000 in
theorem gX2_lift_X1_has_n174 : GoodIn wsX2_lift (wsX1_has) := ggX2_lift_X1_has
set_option maxRecDepth 20000 in
theorem ggX2_lift_X1_isInForce : GoodIn wsX2_lift wsX1_isInForce := goodIn_r _ [13, 14, 15, 6, 8, 7, 9, 10, 34, 35, 36, 37, 38, 39] (by decide +kernel) (by decide +kernel)
set_option maxRecDepth 20000 in
theorem gX2_lift_X1_isInForce_n182 : GoodIn wsX2_lift (wsX1_isInForce) := ggX2_lift_X1_isInForce
set_option maxRecDepth 20000 in
theorem ggX2_lift_X1_isBinding : GoodIn wsX2_lift wsX1_isBinding := goodIn_r _ [18, 19, 15, 6, 8, 7, 9, 10, 20, 21, 22, 23, 14, 24, 34, 35, 36, 37, 38, 39] (by decide +kernel) (by decide +kernel)
set_option maxRecDepth 20000 in
theorem gX2_lift_X1_isBinding_n187 : GoodIn wsX2_lift (wsX1_isBinding) := ggX2_lift_X1_isBinding
set_option maxRecDepth 20000 in
theorem ggX2_lift_X1_end : GoodIn wsX2_lift wsX1_end := goodIn_r _ [27, 14, 15, 6, 8, 7, 9, 10, 34, 35, 36, 37, 38, 39] (by decide +kernel) (by decide +kernel)
set_option maxRecDepth 20000 in
theorem gX2_lift_X1_end_n190 : GoodIn wsX2_lift (wsX1_end) := ggX2_lift_X1_end
theorem dX2_lift_0 : decode cX2_lift 0 = .ok (.aload_n 0, 1) := by decide +kernel
theorem dX2_lift_1 : decode cX2_lift 1 = .ok (.getfield 18, 3) := by decide +kernel
theorem dX2_lift_4 : decode cX2_lift 4 = .ok (.iload_n 1, 1) := by decide +kernel
theorem dX2_lift_5 : decode cX2_lift 5 = .ok (.invokevirtual 174, 3) := by decide +kernel
theorem dX2_lift_8 : decode cX2_lift 8 = .ok (.ifCond .ne 13, 3) := by decide +kernel
theorem dX2_lift_11 : decode cX2_lift 11 = .ok (.new 177, 3) := by decide +kernel
theorem dX2_lift_14 : decode cX2_lift 14 = .ok (.dup, 1) := by decide +kernel
theorem dX2_lift_15 : decode cX2_lift 15 = .ok (.ldc 179, 2) := by decide +kernel
theorem dX2_lift_17 : decode cX2_lift 17 = .ok (.invokespecial 181, 3) := by decide +kernel
theorem dX2_lift_20 : decode cX2_lift 20 = .ok (.athrow, 1) := by decide +kernel
theorem dX2_lift_21 : decode cX2_lift 21 = .ok (.aload_n 0, 1) := by decide +kernel
theorem dX2_lift_22 : decode cX2_lift 22 = .ok (.getfield 18, 3) := by decide +kernel
theorem dX2_lift_25 : decode cX2_lift 25 = .ok (.iload_n 1, 1) := by decide +kernel
theorem dX2_lift_26 : decode cX2_lift 26 = .ok (.invokevirtual 182, 3) := by decide +kernel
theorem dX2_lift_29 : decode cX2_lift 29 = .ok (.ifCond .ne 13, 3) := by decide +kernel
theorem dX2_lift_32 : decode cX2_lift 32 = .ok (.new 43, 3) := by decide +kernel
theorem dX2_lift_35 : decode cX2_lift 35 = .ok (.dup, 1) := by decide +kernel
theorem dX2_lift_36 : decode cX2_lift 36 = .ok (.ldc 185, 2) := by decide +kernel
theorem dX2_lift_38 : decode cX2_lift 38 = .ok (.invokespecial 47, 3) := by decide +kernel
theorem dX2_lift_41 : decode cX2_lift 41 = .ok (.athrow, 1) := by decide +kernel
theorem dX2_lift_42 : decode cX2_lift 42 = .ok (.aload_n 0, 1) := by decide +kernel
theorem dX2_lift_43 : decode cX2_lift 43 = .ok (.getfield 18, 3) := by decide +kernel
theorem dX2_lift_46 : decode cX2_lift 46 = .ok (.iload_n 1, 1) := by decide +kernel
theorem dX2_lift_47 : decode cX2_lift 47 = .ok (.invokevirtual 187, 3) := by decide +kernel
theorem dX2_lift_50 : decode cX2_lift 50 = .ok (.istore_n 2, 1) := by decide +kernel
theorem dX2_lift_51 : decode cX2_lift 51 = .ok (.aload_n 0, 1) := by decide +kernel
theorem dX2_lift_52 : decode cX2_lift 52 = .ok (.getfield 18, 3) := by decide +kernel
theorem dX2_lift_55 : decode cX2_lift 55 = .ok (.iload_n 1, 1) := by decide +kernel
theorem dX2_lift_56 : decode cX2_lift 56 = .ok (.invokevirtual 190, 3) := by decide +kernel
theorem dX2_lift_59 : decode cX2_lift 59 = .ok (.iload_n 2, 1) := by decide +kernel
theorem dX2_lift_60 : decode cX2_lift 60 = .ok (.ireturn, 1) := by decide +kernel
set_option maxRecDepth 20000 in
theorem ggX2_enter_X2_boxAt : GoodIn wsX2_enter wsX2_boxAt := goodIn_ca (goodIn_r _ [6, 7, 8, 9, 5, 10, 11, 12, 99, 100, 101, 102, 103, 104] (by decide +kernel) (by decide +kernel)) (goodIn_sub (fun _ h => List.mem_cons_of_mem _ (List.mem_append_left _ (List.mem_append_right _ h))) (by decide +kernel))
set_option maxRecDepth 20000 in
theorem gX2_enter_X2_boxAt : GoodIn wsX2_enter (wsV RX2 50 RX2 yX2_boxAt wsX2_boxAt) := goodIn_app (goodIn_of _ (by decide +kernel)) ggX2_enter_X2_boxAt
set_option maxRecDepth 20000 in
theorem ggX2_enter_X2_requirePerson : GoodIn wsX2_enter wsX2_requirePerson := goodIn_ca (goodIn_r _ [15, 8, 9, 5, 10, 11, 12] (by decide +kernel) (by decide +kernel)) (goodIn_sub (fun _ h => List.mem_cons_of_mem _ (List.mem_append_left _ (List.mem_append_right _ h))) (by decide +kernel))
set_option maxRecDepth 20000 in
theorem gX2_enter_X2_requirePerson : GoodIn wsX2_enter (va_wsS RX2 54 yX2_requirePerson wsX2_requirePerson) := goodIn_app (goodIn_of _ (by decide +kernel)) ggX2_enter_X2_requirePerson
set_option maxRecDepth 20000 in
theorem ggX2_enter_X2_requireRange : GoodIn wsX2_enter wsX2_requireRange := goodIn_ca (goodIn_r _ [10, 11, 12] (by decide +kernel) (by decide +kernel)) (goodIn_sub (fun _ h => List.mem_cons_of_mem _ (List.mem_append_left _ (List.mem_append_right _ h))) (by decide +kernel))
set_option maxRecDepth 20000 in
theorem gX2_enter_X2_requireRange : GoodIn wsX2_enter (va_wsS RX2 38 yX2_requireRange wsX2_requireRange) := goodIn_app (goodIn_of _ (by decide +kernel)) ggX2_enter_X2_requireRange
set_option maxRecDepth 20000 in
theorem ggX2_enter_X2_requireRented : GoodIn wsX2_enter wsX2_requireRented := goodIn_ca (goodIn_r _ [18, 19, 20, 21, 22, 23, 24, 25, 105, 106, 107, 108, 109, 110, 111, 112, 113, 114] (by decide +kernel) (by decide +kernel)) (goodIn_sub (fun _ h => List.mem_cons_of_mem _ (List.mem_append_right _ h)) (by decide +kernel))
set_option maxRecDepth 20000 in
theorem gX2_enter_X2_requireRented : GoodIn wsX2_enter (va_wsS RX2 77 yX2_requireRented wsX2_requireRented) := goodIn_app (goodIn_of _ (by decide +kernel)) ggX2_enter_X2_requireRented
set_option maxRecDepth 20000 in
theorem ggX2_enter_X2_rightOf : GoodIn wsX2_enter wsX2_rightOf := goodIn_r _ [29, 30, 21, 22, 23, 24, 25, 31, 32, 33, 5, 34, 35, 36, 37, 38, 39, 40, 41, 42, 43, 44, 45, 46, 47, 48, 49, 50, 51, 52, 53, 54, 55, 56, 57, 58, 59, 60, 61, 62, 63, 64, 65, 66, 67, 68, 69, 70, 71, 72, 73, 74, 75, 76, 77, 78, 79, 80, 81, 82, 83, 84, 85, 86, 87, 88, 89, 90, 91, 92, 93, 94, 95, 96, 97, 98, 99, 100, 101, 102, 103, 104, 105, 106, 107, 108, 109, 110, 111, 112, 113, 114, 115, 116, 117, 118, 119, 120] (by decide +kernel) (by decide +kernel)
set_option maxRecDepth 20000 in
theorem gX2_enter_X2_rightOf : GoodIn wsX2_enter (wsV RX2 81 RX2 yX2_rightOf wsX2_rightOf) := goodIn_app (goodIn_of _ (by decide +kernel)) ggX2_enter_X2_rightOf
theorem dX2_enter_0 : decode cX2_enter 0 = .ok (.aload_n 0, 1) := by decide +kernel
theorem dX2_enter_1 : decode cX2_enter 1 = .ok (.iload_n 1, 1) := by decide +kernel
theorem dX2_enter_2 : decode cX2_enter 2 = .ok (.invokevirtual 50, 3) := by decide +kernel
theorem dX2_enter_5 : decode cX2_enter 5 = .ok (.astore 4, 2) := by decide +kernel
theorem dX2_enter_7 : decode cX2_enter 7 = .ok (.iload_n 2, 1) := by decide +kernel
theorem dX2_enter_8 : decode cX2_enter 8 = .ok (.invokestatic 54, 3) := by decide +kernel
theorem dX2_enter_11 : decode cX2_enter 11 = .ok (.iload_n 3, 1) := by decide +kernel
theorem dX2_enter_12 : decode cX2_enter 12 = .ok (.iconst 0, 1) := by decide +kernel
theorem dX2_enter_13 : decode cX2_enter 13 = .ok (.bipush 100, 2) := by decide +kernel
theorem dX2_enter_15 : decode cX2_enter 15 = .ok (.invokestatic 38, 3) := by decide +kernel
theorem dX2_enter_18 : decode cX2_enter 18 = .ok (.aload 4, 2) := by decide +kernel
theorem dX2_enter_20 : decode cX2_enter 20 = .ok (.invokestatic 77, 3) := by decide +kernel
theorem dX2_enter_23 : decode cX2_enter 23 = .ok (.aload_n 0, 1) := by decide +kernel
theorem dX2_enter_24 : decode cX2_enter 24 = .ok (.iload_n 1, 1) := by decide +kernel
theorem dX2_enter_25 : decode cX2_enter 25 = .ok (.aload 4, 2) := by decide +kernel
theorem dX2_enter_27 : decode cX2_enter 27 = .ok (.iload_n 2, 1) := by decide +kernel
theorem dX2_enter_28 : decode cX2_enter 28 = .ok (.invokevirtual 81, 3) := by decide +kernel
theorem dX2_enter_31 : decode cX2_enter 31 = .ok (.istore 5, 2) := by decide +kernel
theorem dX2_enter_33 : decode cX2_enter 33 = .ok (.iload 5, 2) := by decide +kernel
theorem dX2_enter_35 : decode cX2_enter 35 = .ok (.iconst 3, 1) := by decide +kernel
theorem dX2_enter_36 : decode cX2_enter 36 = .ok (.if_icmp .eq 12, 3) := by decide +kernel
theorem dX2_enter_39 : decode cX2_enter 39 = .ok (.iload_n 3, 1) := by decide +kernel
theorem dX2_enter_40 : decode cX2_enter 40 = .ok (.bipush 60, 2) := by decide +kernel
theorem dX2_enter_42 : decode cX2_enter 42 = .ok (.if_icmp .ge 6, 3) := by decide +kernel
theorem dX2_enter_45 : decode cX2_enter 45 = .ok (.iconst 2, 1) := by decide +kernel
theorem dX2_enter_46 : decode cX2_enter 46 = .ok (.istore 5, 2) := by decide +kernel
theorem dX2_enter_48 : decode cX2_enter 48 = .ok (.iload 5, 2) := by decide +kernel
theorem dX2_enter_50 : decode cX2_enter 50 = .ok (.iconst 3, 1) := by decide +kernel
theorem dX2_enter_51 : decode cX2_enter 51 = .ok (.if_icmp .eq 9, 3) := by decide +kernel
theorem dX2_enter_54 : decode cX2_enter 54 = .ok (.iload 5, 2) := by decide +kernel
theorem dX2_enter_56 : decode cX2_enter 56 = .ok (.iconst 2, 1) := by decide +kernel
theorem dX2_enter_57 : decode cX2_enter 57 = .ok (.if_icmp .ne 16, 3) := by decide +kernel
theorem dX2_enter_60 : decode cX2_enter 60 = .ok (.aload_n 0, 1) := by decide +kernel
theorem dX2_enter_61 : decode cX2_enter 61 = .ok (.getfield 30, 3) := by decide +kernel
theorem dX2_enter_64 : decode cX2_enter 64 = .ok (.iload_n 2, 1) := by decide +kernel
theorem dX2_enter_65 : decode cX2_enter 65 = .ok (.dup2, 1) := by decide +kernel
theorem dX2_enter_66 : decode cX2_enter 66 = .ok (.iaload, 1) := by decide +kernel
theorem dX2_enter_67 : decode cX2_enter 67 = .ok (.iconst 1, 1) := by decide +kernel
theorem dX2_enter_68 : decode cX2_enter 68 = .ok (.iadd, 1) := by decide +kernel
theorem dX2_enter_69 : decode cX2_enter 69 = .ok (.iastore, 1) := by decide +kernel
theorem dX2_enter_70 : decode cX2_enter 70 = .ok (.iload 5, 2) := by decide +kernel
theorem dX2_enter_72 : decode cX2_enter 72 = .ok (.ireturn, 1) := by decide +kernel
theorem dX2_enter_73 : decode cX2_enter 73 = .ok (.aload 4, 2) := by decide +kernel
theorem dX2_enter_75 : decode cX2_enter 75 = .ok (.dup, 1) := by decide +kernel
theorem dX2_enter_76 : decode cX2_enter 76 = .ok (.getfield 87, 3) := by decide +kernel
theorem dX2_enter_79 : decode cX2_enter 79 = .ok (.iconst 1, 1) := by decide +kernel
theorem dX2_enter_80 : decode cX2_enter 80 = .ok (.iadd, 1) := by decide +kernel
theorem dX2_enter_81 : decode cX2_enter 81 = .ok (.putfield 87, 3) := by decide +kernel
theorem dX2_enter_84 : decode cX2_enter 84 = .ok (.iload 5, 2) := by decide +kernel
theorem dX2_enter_86 : decode cX2_enter 86 = .ok (.iconst 1, 1) := by decide +kernel
theorem dX2_enter_87 : decode cX2_enter 87 = .ok (.if_icmp .ne 9, 3) := by decide +kernel
theorem dX2_enter_90 : decode cX2_enter 90 = .ok (.aload 4, 2) := by decide +kernel
theorem dX2_enter_92 : decode cX2_enter 92 = .ok (.iconst 1, 1) := by decide +kernel
theorem dX2_enter_93 : decode cX2_enter 93 = .ok (.putfield 193, 3) := by decide +kernel
theorem dX2_enter_96 : decode cX2_enter 96 = .ok (.iload 5, 2) := by decide +kernel
theorem dX2_enter_98 : decode cX2_enter 98 = .ok (.ireturn, 1) := by decide +kernel
set_option maxRecDepth 20000 in
theorem ggX2_may_X2_boxAt : GoodIn wsX2_may wsX2_boxAt := goodIn_ca (goodIn_r _ [5, 6, 7, 8, 4, 9, 10, 11, 93, 94, 95, 96, 97, 98] (by decide +kernel) (by decide +kernel)) (goodIn_sub (fun _ h => List.mem_cons_of_mem _ (List.mem_append_right _ h)) (by decide +kernel))
set_option maxRecDepth 20000 in
theorem gX2_may_X2_boxAt : GoodIn wsX2_may (wsV RX2 50 RX2 yX2_boxAt wsX2_boxAt) := goodIn_app (goodIn_of _ (by decide +kernel)) ggX2_may_X2_boxAt
set_option maxRecDepth 20000 in
theorem ggX2_may_X2_requirePerson : GoodIn wsX2_may wsX2_requirePerson := goodIn_ca (goodIn_r _ [14, 7, 8, 4, 9, 10, 11] (by decide +kernel) (by decide +kernel)) (goodIn_sub (fun _ h => List.mem_cons_of_mem _ (List.mem_append_right _ h)) (by decide +kernel))
set_option maxRecDepth 20000 in
theorem gX2_may_X2_requirePerson : GoodIn wsX2_may (va_wsS RX2 54 yX2_requirePerson wsX2_requirePerson) := goodIn_app (goodIn_of _ (by decide +kernel)) ggX2_may_X2_requirePerson
set_option maxRecDepth 20000 in
theorem ggX2_may_X2_rightOf : GoodIn wsX2_may wsX2_rightOf := goodIn_r _ [18, 19, 20, 21, 22, 23, 24, 25, 26, 27, 4, 28, 29, 30, 31, 32, 33, 34, 35, 36, 37, 38, 39, 40, 41, 42, 43, 44, 45, 46, 47, 48, 49, 50, 51, 52, 53, 54, 55, 56, 57, 58, 59, 60, 61, 62, 63, 64, 65, 66, 67, 68, 69, 70, 71, 72, 73, 74, 75, 76, 77, 78, 79, 80, 81, 82, 83, 84, 85, 86, 87, 88, 89, 90, 91, 92, 93, 94, 95, 96, 97, 98, 99, 100, 101, 102, 103, 104, 105, 106, 107, 108, 109, 110, 111, 112, 113, 114] (by decide +kernel) (by decide +kernel)
set_option maxRecDepth 20000 in
theorem gX2_may_X2_rightOf : GoodIn wsX2_may (wsV RX2 81 RX2 yX2_rightOf wsX2_rightOf) := goodIn_app (goodIn_of _ (by decide +kernel)) ggX2_may_X2_rightOf
theorem dX2_may_0 : decode cX2_may 0 = .ok (.aload_n 0, 1) := by decide +kernel
theorem dX2_may_1 : decode cX2_may 1 = .ok (.iload_n 1, 1) := by decide +kernel
theorem dX2_may_2 : decode cX2_may 2 = .ok (.invokevirtual 50, 3) := by decide +kernel
theorem dX2_may_5 : decode cX2_may 5 = .ok (.astore_n 3, 1) := by decide +kernel
theorem dX2_may_6 : decode cX2_may 6 = .ok (.iload_n 2, 1) := by decide +kernel
theorem dX2_may_7 : decode cX2_may 7 = .ok (.invokestatic 54, 3) := by decide +kernel
theorem dX2_may_10 : decode cX2_may 10 = .ok (.aload_n 0, 1) := by decide +kernel
theorem dX2_may_11 : decode cX2_may 11 = .ok (.iload_n 1, 1) := by decide +kernel
theorem dX2_may_12 : decode cX2_may 12 = .ok (.aload_n 3, 1) := by decide +kernel
theorem dX2_may_13 : decode cX2_may 13 = .ok (.iload_n 2, 1) := by decide +kernel
theorem dX2_may_14 : decode cX2_may 14 = .ok (.invokevirtual 81, 3) := by decide +kernel
theorem dX2_may_17 : decode cX2_may 17 = .ok (.ireturn, 1) := by decide +kernel
set_option maxRecDepth 20000 in
theorem ggX2_mayAll_X2_boxAt : GoodIn wsX2_mayAll wsX2_boxAt := goodIn_ca (goodIn_r _ [5, 6, 7, 8, 4, 9, 10, 11, 90, 91, 92, 93, 94, 95] (by decide +kernel) (by decide +kernel)) (goodIn_sub (fun _ h => List.mem_cons_of_mem _ (List.mem_append_right _ h)) (by decide +kernel))
set_option maxRecDepth 20000 in
theorem gX2_mayAll_X2_boxAt : GoodIn wsX2_mayAll (wsV RX2 50 RX2 yX2_boxAt wsX2_boxAt) := goodIn_app (goodIn_of _ (by decide +kernel)) ggX2_mayAll_X2_boxAt
set_option maxRecDepth 20000 in
theorem ggX2_mayAll_X2_rightOf : GoodIn wsX2_mayAll wsX2_rightOf := goodIn_r _ [15, 16, 17, 18, 19, 20, 21, 22, 23, 24, 4, 25, 26, 27, 28, 29, 30, 31, 32, 33, 34, 35, 36, 37, 38, 39, 40, 41, 42, 43, 44, 45, 46, 47, 48, 49, 50, 51, 52, 53, 54, 55, 56, 57, 58, 59, 60, 61, 62, 63, 64, 65, 66, 67, 68, 69, 70, 71, 72, 73, 74, 75, 76, 77, 78, 79, 80, 81, 82, 83, 84, 85, 86, 87, 88, 89, 90, 91, 92, 93, 94, 95, 96, 97, 98, 99, 100, 101, 102, 103, 104, 105, 106, 107, 108, 109, 110, 111] (by decide +kernel) (by decide +kernel)
set_option maxRecDepth 20000 in
theorem gX2_mayAll_X2_rightOf : GoodIn wsX2_mayAll (wsV RX2 81 RX2 yX2_rightOf wsX2_rightOf) := goodIn_app (goodIn_of _ (by decide +kernel)) ggX2_mayAll_X2_rightOf
theorem dX2_mayAll_0 : decode cX2_mayAll 0 = .ok (.aload_n 0, 1) := by decide +kernel
theorem dX2_mayAll_1 : decode cX2_mayAll 1 = .ok (.iload_n 1, 1) := by decide +kernel
theorem dX2_mayAll_2 : decode cX2_mayAll 2 = .ok (.invokevirtual 50, 3) := by decide +kernel
theorem dX2_mayAll_5 : decode cX2_mayAll 5 = .ok (.astore_n 2, 1) := by decide +kernel
theorem dX2_mayAll_6 : decode cX2_mayAll 6 = .ok (.iconst 0, 1) := by decide +kernel
theorem dX2_mayAll_7 : decode cX2_mayAll 7 = .ok (.istore_n 3, 1) := by decide +kernel
theorem dX2_mayAll_8 : decode cX2_mayAll 8 = .ok (.iconst 0, 1) := by decide +kernel
theorem dX2_mayAll_9 : decode cX2_mayAll 9 = .ok (.istore 4, 2) := by decide +kernel
theorem dX2_mayAll_11 : decode cX2_mayAll 11 = .ok (.iload 4, 2) := by decide +kernel
theorem dX2_mayAll_13 : decode cX2_mayAll 13 = .ok (.bipush 16, 2) := by decide +kernel
theorem dX2_mayAll_15 : decode cX2_mayAll 15 = .ok (.if_icmp .ge 24, 3) := by decide +kernel
theorem dX2_mayAll_18 : decode cX2_mayAll 18 = .ok (.aload_n 0, 1) := by decide +kernel
theorem dX2_mayAll_19 : decode cX2_mayAll 19 = .ok (.iload_n 1, 1) := by decide +kernel
theorem dX2_mayAll_20 : decode cX2_mayAll 20 = .ok (.aload_n 2, 1) := by decide +kernel
theorem dX2_mayAll_21 : decode cX2_mayAll 21 = .ok (.iload 4, 2) := by decide +kernel
theorem dX2_mayAll_23 : decode cX2_mayAll 23 = .ok (.invokevirtual 81, 3) := by decide +kernel
theorem dX2_mayAll_26 : decode cX2_mayAll 26 = .ok (.iconst 3, 1) := by decide +kernel
theorem dX2_mayAll_27 : decode cX2_mayAll 27 = .ok (.if_icmp .eq 6, 3) := by decide +kernel
theorem dX2_mayAll_30 : decode cX2_mayAll 30 = .ok (.iinc 3 1, 3) := by decide +kernel
theorem dX2_mayAll_33 : decode cX2_mayAll 33 = .ok (.iinc 4 1, 3) := by decide +kernel
theorem dX2_mayAll_36 : decode cX2_mayAll 36 = .ok (.goto (-25), 3) := by decide +kernel
theorem dX2_mayAll_39 : decode cX2_mayAll 39 = .ok (.iload_n 3, 1) := by decide +kernel
theorem dX2_mayAll_40 : decode cX2_mayAll 40 = .ok (.ireturn, 1) := by decide +kernel
set_option maxRecDepth 20000 in
theorem ggX2_holder_X2_boxAt : GoodIn wsX2_holder wsX2_boxAt := goodIn_ca (goodIn_r _ [5, 6, 7, 8, 4, 9, 10, 11, 22, 23, 24, 25, 26, 27] (by decide +kernel) (by decide +kernel)) (goodIn_sub (fun _ h => List.mem_cons_of_mem _ (List.mem_append_right _ h)) (by decide +kernel))
set_option maxRecDepth 20000 in
theorem gX2_holder_X2_boxAt : GoodIn wsX2_holder (wsV RX2 50 RX2 yX2_boxAt wsX2_boxAt) := goodIn_app (goodIn_of _ (by decide +kernel)) ggX2_holder_X2_boxAt
theorem dX2_holder_0 : decode cX2_holder 0 = .ok (.aload_n 0, 1) := by decide +kernel
theorem dX2_holder_1 : decode cX2_holder 1 = .ok (.iload_n 1, 1) := by decide +kernel
theorem dX2_holder_2 : decode cX2_holder 2 = .ok (.invokevirtual 50, 3) := by decide +kernel
theorem dX2_holder_5 : decode cX2_holder 5 = .ok (.getfield 136, 3) := by decide +kernel
theorem dX2_holder_8 : decode cX2_holder 8 = .ok (.ireturn, 1) := by decide +kernel
set_option maxRecDepth 20000 in
theorem ggX2_notices_X2_boxAt : GoodIn wsX2_notices wsX2_boxAt := goodIn_ca (goodIn_r _ [6, 7, 8, 9, 5, 10, 11, 12, 33, 34, 35, 36, 37, 38] (by decide +kernel) (by decide +kernel)) (goodIn_sub (fun _ h => List.mem_cons_of_mem _ (List.mem_append_right _ h)) (by decide +kernel))
set_option maxRecDepth 20000 in
theorem gX2_notices_X2_boxAt : GoodIn wsX2_notices (wsV RX2 50 RX2 yX2_boxAt wsX2_boxAt) := goodIn_app (goodIn_of _ (by decide +kernel)) ggX2_notices_X2_boxAt
set_option maxRecDepth 20000 in
theorem ggX2_notices_X0_isRented : GoodIn wsX2_notices wsX0_isRented := goodIn_r _ [16, 17, 39, 40, 41, 42, 43, 44, 45, 46, 47, 48] (by decide +kernel) (by decide +kernel)
set_option maxRecDepth 20000 in
theorem gX2_notices_X0_isRented_n160 : GoodIn wsX2_notices (wsX0_isRented) := ggX2_notices_X0_isRented
set_option maxRecDepth 20000 in
theorem ggX2_notices_X0_noticesOn : GoodIn wsX2_notices wsX0_noticesOn := goodIn_r _ [20, 21, 22, 23, 24, 25, 26, 27, 14, 28, 29, 30, 31, 32, 39, 40, 41, 42, 43, 44, 45, 46, 47, 48] (by decide +kernel) (by decide +kernel)
set_option maxRecDepth 20000 in
theorem gX2_notices_X0_noticesOn_n99 : GoodIn wsX2_notices (wsX0_noticesOn) := ggX2_notices_X0_noticesOn
theorem dX2_notices_0 : decode cX2_notices 0 = .ok (.aload_n 0, 1) := by decide +kernel
theorem dX2_notices_1 : decode cX2_notices 1 = .ok (.iload_n 1, 1) := by decide +kernel
theorem dX2_notices_2 : decode cX2_notices 2 = .ok (.invokevirtual 50, 3) := by decide +kernel
theorem dX2_notices_5 : decode cX2_notices 5 = .ok (.astore_n 2, 1) := by decide +kernel
theorem dX2_notices_6 : decode cX2_notices 6 = .ok (.aload_n 2, 1) := by decide +kernel
theorem dX2_notices_7 : decode cX2_notices 7 = .ok (.invokevirtual 160, 3) := by decide +kernel
theorem dX2_notices_10 : decode cX2_notices 10 = .ok (.ifCond .eq 14, 3) := by decide +kernel
theorem dX2_notices_13 : decode cX2_notices 13 = .ok (.aload_n 2, 1) := by decide +kernel
theorem dX2_notices_14 : decode cX2_notices 14 = .ok (.aload_n 0, 1) := by decide +kernel
theorem dX2_notices_15 : decode cX2_notices 15 = .ok (.getfield 33, 3) := by decide +kernel
theorem dX2_notices_18 : decode cX2_notices 18 = .ok (.invokevirtual 99, 3) := by decide +kernel
theorem dX2_notices_21 : decode cX2_notices 21 = .ok (.goto 4, 3) := by decide +kernel
theorem dX2_notices_24 : decode cX2_notices 24 = .ok (.iconst 0, 1) := by decide +kernel
theorem dX2_notices_25 : decode cX2_notices 25 = .ok (.ireturn, 1) := by decide +kernel
set_option maxRecDepth 20000 in
theorem ggX2_refusals_X2_requirePerson : GoodIn wsX2_refusals wsX2_requirePerson := goodIn_ca (goodIn_r _ [5, 6, 7, 4, 8, 9, 10] (by decide +kernel) (by decide +kernel)) (goodIn_sub (fun _ h => List.mem_cons_of_mem _ (List.mem_append_right _ h)) (by decide +kernel))
set_option maxRecDepth 20000 in
theorem gX2_refusals_X2_requirePerson : GoodIn wsX2_refusals (va_wsS RX2 54 yX2_requirePerson wsX2_requirePerson) := goodIn_app (goodIn_of _ (by decide +kernel)) ggX2_refusals_X2_requirePerson
theorem dX2_refusals_0 : decode cX2_refusals 0 = .ok (.iload_n 1, 1) := by decide +kernel
theorem dX2_refusals_1 : decode cX2_refusals 1 = .ok (.invokestatic 54, 3) := by decide +kernel
theorem dX2_refusals_4 : decode cX2_refusals 4 = .ok (.aload_n 0, 1) := by decide +kernel
theorem dX2_refusals_5 : decode cX2_refusals 5 = .ok (.getfield 30, 3) := by decide +kernel
theorem dX2_refusals_8 : decode cX2_refusals 8 = .ok (.iload_n 1, 1) := by decide +kernel
theorem dX2_refusals_9 : decode cX2_refusals 9 = .ok (.iaload, 1) := by decide +kernel
theorem dX2_refusals_10 : decode cX2_refusals 10 = .ok (.ireturn, 1) := by decide +kernel
set_option maxRecDepth 20000 in
theorem ggX2_binding_X2_requireRange : GoodIn wsX2_binding wsX2_requireRange := goodIn_ca (goodIn_r _ [5, 6, 7] (by decide +kernel) (by decide +kernel)) (goodIn_sub (fun _ h => List.mem_cons_of_mem _ (List.mem_append_right _ h)) (by decide +kernel))
set_option maxRecDepth 20000 in
theorem gX2_binding_X2_requireRange : GoodIn wsX2_binding (va_wsS RX2 38 yX2_requireRange wsX2_requireRange) := goodIn_app (goodIn_of _ (by decide +kernel)) ggX2_binding_X2_requireRange
set_option maxRecDepth 20000 in
theorem ggX2_binding_X1_bindingOn : GoodIn wsX2_binding wsX1_bindingOn := goodIn_r _ [11, 12, 13, 14, 15, 22, 23, 24, 25, 26, 27] (by decide +kernel) (by decide +kernel)
set_option maxRecDepth 20000 in
theorem gX2_binding_X1_bindingOn_n111 : GoodIn wsX2_binding (wsX1_bindingOn) := ggX2_binding_X1_bindingOn
theorem dX2_binding_0 : decode cX2_binding 0 = .ok (.iload_n 1, 1) := by decide +kernel
theorem dX2_binding_1 : decode cX2_binding 1 = .ok (.iconst 0, 1) := by decide +kernel
theorem dX2_binding_2 : decode cX2_binding 2 = .ok (.bipush 7, 2) := by decide +kernel
theorem dX2_binding_4 : decode cX2_binding 4 = .ok (.invokestatic 38, 3) := by decide +kernel
theorem dX2_binding_7 : decode cX2_binding 7 = .ok (.aload_n 0, 1) := by decide +kernel
theorem dX2_binding_8 : decode cX2_binding 8 = .ok (.getfield 18, 3) := by decide +kernel
theorem dX2_binding_11 : decode cX2_binding 11 = .ok (.iload_n 1, 1) := by decide +kernel
theorem dX2_binding_12 : decode cX2_binding 12 = .ok (.invokevirtual 111, 3) := by decide +kernel
theorem dX2_binding_15 : decode cX2_binding 15 = .ok (.ireturn, 1) := by decide +kernel
theorem dX2_requireRange_0 : decode cX2_requireRange 0 = .ok (.iload_n 0, 1) := by decide +kernel
theorem dX2_requireRange_1 : decode cX2_requireRange 1 = .ok (.iload_n 1, 1) := by decide +kernel
theorem dX2_requireRange_2 : decode cX2_requireRange 2 = .ok (.if_icmp .lt 8, 3) := by decide +kernel
theorem dX2_requireRange_5 : decode cX2_requireRange 5 = .ok (.iload_n 0, 1) := by decide +kernel
theorem dX2_requireRange_6 : decode cX2_requireRange 6 = .ok (.iload_n 2, 1) := by decide +kernel
theorem dX2_requireRange_7 : decode cX2_requireRange 7 = .ok (.if_icmp .le 13, 3) := by decide +kernel
theorem dX2_requireRange_10 : decode cX2_requireRange 10 = .ok (.new 94, 3) := by decide +kernel
theorem dX2_requireRange_13 : decode cX2_requireRange 13 = .ok (.dup, 1) := by decide +kernel
theorem dX2_requireRange_14 : decode cX2_requireRange 14 = .ok (.ldc 197, 2) := by decide +kernel
theorem dX2_requireRange_16 : decode cX2_requireRange 16 = .ok (.invokespecial 98, 3) := by decide +kernel
theorem dX2_requireRange_19 : decode cX2_requireRange 19 = .ok (.athrow, 1) := by decide +kernel
theorem dX2_requireRange_20 : decode cX2_requireRange 20 = .ok (.return_, 1) := by decide +kernel
set_option maxRecDepth 20000 in
theorem ggX2_requirePerson_X2_requireRange : GoodIn wsX2_requirePerson wsX2_requireRange := goodIn_ca (goodIn_r _ [4, 5, 6] (by decide +kernel) (by decide +kernel)) (goodIn_sub (fun _ h => List.mem_cons_of_mem _ (List.mem_append_right _ h)) (by decide +kernel))
set_option maxRecDepth 20000 in
theorem gX2_requirePerson_X2_requireRange : GoodIn wsX2_requirePerson (va_wsS RX2 38 yX2_requireRange wsX2_requireRange) := goodIn_app (goodIn_of _ (by decide +kernel)) ggX2_requirePerson_X2_requireRange
theorem dX2_requirePerson_0 : decode cX2_requirePerson 0 = .ok (.iload_n 0, 1) := by decide +kernel
theorem dX2_requirePerson_1 : decode cX2_requirePerson 1 = .ok (.iconst 0, 1) := by decide +kernel
theorem dX2_requirePerson_2 : decode cX2_requirePerson 2 = .ok (.bipush 15, 2) := by decide +kernel
theorem dX2_requirePerson_4 : decode cX2_requirePerson 4 = .ok (.invokestatic 38, 3) := by decide +kernel
theorem dX2_requirePerson_7 : decode cX2_requirePerson 7 = .ok (.return_, 1) := by decide +kernel
set_option maxRecDepth 20000 in
theorem ggX2_requireRented_X0_isRented : GoodIn wsX2_requireRented wsX0_isRented := goodIn_r _ [6, 7, 8, 9, 10, 11, 12, 13, 14, 15, 16, 17] (by decide +kernel) (by decide +kernel)
set_option maxRecDepth 20000 in
theorem gX2_requireRented_X0_isRented_n160 : GoodIn wsX2_requireRented (wsX0_isRented) := ggX2_requireRented_X0_isRented
theorem dX2_requireRented_0 : decode cX2_requireRented 0 = .ok (.aload_n 0, 1) := by decide +kernel
theorem dX2_requireRented_1 : decode cX2_requireRented 1 = .ok (.invokevirtual 160, 3) := by decide +kernel
theorem dX2_requireRented_4 : decode cX2_requireRented 4 = .ok (.ifCond .ne 13, 3) := by decide +kernel
theorem dX2_requireRented_7 : decode cX2_requireRented 7 = .ok (.new 43, 3) := by decide +kernel
theorem dX2_requireRented_10 : decode cX2_requireRented 10 = .ok (.dup, 1) := by decide +kernel
theorem dX2_requireRented_11 : decode cX2_requireRented 11 = .ok (.ldc 199, 2) := by decide +kernel
theorem dX2_requireRented_13 : decode cX2_requireRented 13 = .ok (.invokespecial 47, 3) := by decide +kernel
theorem dX2_requireRented_16 : decode cX2_requireRented 16 = .ok (.athrow, 1) := by decide +kernel
theorem dX2_requireRented_17 : decode cX2_requireRented 17 = .ok (.return_, 1) := by decide +kernel
set_option maxRecDepth 20000 in
theorem ggX2_boxAt_X2_requireRange : GoodIn wsX2_boxAt wsX2_requireRange := goodIn_ca (goodIn_r _ [5, 6, 7] (by decide +kernel) (by decide +kernel)) (goodIn_sub (fun _ h => List.mem_cons_of_mem _ (List.mem_append_right _ h)) (by decide +kernel))
set_option maxRecDepth 20000 in
theorem gX2_boxAt_X2_requireRange : GoodIn wsX2_boxAt (va_wsS RX2 38 yX2_requireRange wsX2_requireRange) := goodIn_app (goodIn_of _ (by decide +kernel)) ggX2_boxAt_X2_requireRange
theorem dX2_boxAt_0 : decode cX2_boxAt 0 = .ok (.iload_n 1, 1) := by decide +kernel
theorem dX2_boxAt_1 : decode cX2_boxAt 1 = .ok (.iconst 0, 1) := by decide +kernel
theorem dX2_boxAt_2 : decode cX2_boxAt 2 = .ok (.bipush 7, 2) := by decide +kernel
theorem dX2_boxAt_4 : decode cX2_boxAt 4 = .ok (.invokestatic 38, 3) := by decide +kernel
theorem dX2_boxAt_7 : decode cX2_boxAt 7 = .ok (.aload_n 0, 1) := by decide +kernel
theorem dX2_boxAt_8 : decode cX2_boxAt 8 = .ok (.getfield 11, 3) := by decide +kernel
theorem dX2_boxAt_11 : decode cX2_boxAt 11 = .ok (.iload_n 1, 1) := by decide +kernel
theorem dX2_boxAt_12 : decode cX2_boxAt 12 = .ok (.aaload, 1) := by decide +kernel
theorem dX2_boxAt_13 : decode cX2_boxAt 13 = .ok (.areturn, 1) := by decide +kernel
theorem dX2_isPerson_0 : decode cX2_isPerson 0 = .ok (.iload_n 0, 1) := by decide +kernel
theorem dX2_isPerson_1 : decode cX2_isPerson 1 = .ok (.ifCond .lt 13, 3) := by decide +kernel
theorem dX2_isPerson_4 : decode cX2_isPerson 4 = .ok (.iload_n 0, 1) := by decide +kernel
theorem dX2_isPerson_5 : decode cX2_isPerson 5 = .ok (.bipush 16, 2) := by decide +kernel
theorem dX2_isPerson_7 : decode cX2_isPerson 7 = .ok (.if_icmp .ge 7, 3) := by decide +kernel
theorem dX2_isPerson_10 : decode cX2_isPerson 10 = .ok (.iconst 1, 1) := by decide +kernel
theorem dX2_isPerson_11 : decode cX2_isPerson 11 = .ok (.goto 4, 3) := by decide +kernel
theorem dX2_isPerson_14 : decode cX2_isPerson 14 = .ok (.iconst 0, 1) := by decide +kernel
theorem dX2_isPerson_15 : decode cX2_isPerson 15 = .ok (.ireturn, 1) := by decide +kernel
set_option maxRecDepth 20000 in
theorem ggX2_isAlive_X2_isPerson : GoodIn wsX2_isAlive wsX2_isPerson := goodIn_r _ [5] (by decide +kernel) (by decide +kernel)
set_option maxRecDepth 20000 in
theorem gX2_isAlive_X2_isPerson : GoodIn wsX2_isAlive (va_wsS RX2 201 yX2_isPerson wsX2_isPerson) := goodIn_app (goodIn_of _ (by decide +kernel)) ggX2_isAlive_X2_isPerson
theorem dX2_isAlive_0 : decode cX2_isAlive 0 = .ok (.iload_n 1, 1) := by decide +kernel
theorem dX2_isAlive_1 : decode cX2_isAlive 1 = .ok (.invokestatic 201, 3) := by decide +kernel
theorem dX2_isAlive_4 : decode cX2_isAlive 4 = .ok (.ifCond .eq 16, 3) := by decide +kernel
theorem dX2_isAlive_7 : decode cX2_isAlive 7 = .ok (.aload_n 0, 1) := by decide +kernel
theorem dX2_isAlive_8 : decode cX2_isAlive 8 = .ok (.getfield 22, 3) := by decide +kernel
theorem dX2_isAlive_11 : decode cX2_isAlive 11 = .ok (.iload_n 1, 1) := by decide +kernel
theorem dX2_isAlive_12 : decode cX2_isAlive 12 = .ok (.baload, 1) := by decide +kernel
theorem dX2_isAlive_13 : decode cX2_isAlive 13 = .ok (.ifCond .ne 7, 3) := by decide +kernel
theorem dX2_isAlive_16 : decode cX2_isAlive 16 = .ok (.iconst 1, 1) := by decide +kernel
theorem dX2_isAlive_17 : decode cX2_isAlive 17 = .ok (.goto 4, 3) := by decide +kernel
theorem dX2_isAlive_20 : decode cX2_isAlive 20 = .ok (.iconst 0, 1) := by decide +kernel
theorem dX2_isAlive_21 : decode cX2_isAlive 21 = .ok (.ireturn, 1) := by decide +kernel
set_option maxRecDepth 20000 in
theorem ggX2_isHeir_X2_isPerson : GoodIn wsX2_isHeir wsX2_isPerson := goodIn_r _ [5] (by decide +kernel) (by decide +kernel)
set_option maxRecDepth 20000 in
theorem gX2_isHeir_X2_isPerson : GoodIn wsX2_isHeir (va_wsS RX2 201 yX2_isPerson wsX2_isPerson) := goodIn_app (goodIn_of _ (by decide +kernel)) ggX2_isHeir_X2_isPerson
theorem dX2_isHeir_0 : decode cX2_isHeir 0 = .ok (.iload_n 1, 1) := by decide +kernel
theorem dX2_isHeir_1 : decode cX2_isHeir 1 = .ok (.invokestatic 201, 3) := by decide +kernel
theorem dX2_isHeir_4 : decode cX2_isHeir 4 = .ok (.ifCond .eq 28, 3) := by decide +kernel
theorem dX2_isHeir_7 : decode cX2_isHeir 7 = .ok (.iload_n 2, 1) := by decide +kernel
theorem dX2_isHeir_8 : decode cX2_isHeir 8 = .ok (.invokestatic 201, 3) := by decide +kernel
theorem dX2_isHeir_11 : decode cX2_isHeir 11 = .ok (.ifCond .eq 21, 3) := by decide +kernel
theorem dX2_isHeir_14 : decode cX2_isHeir 14 = .ok (.aload_n 0, 1) := by decide +kernel
theorem dX2_isHeir_15 : decode cX2_isHeir 15 = .ok (.getfield 26, 3) := by decide +kernel
theorem dX2_isHeir_18 : decode cX2_isHeir 18 = .ok (.iload_n 2, 1) := by decide +kernel
theorem dX2_isHeir_19 : decode cX2_isHeir 19 = .ok (.iaload, 1) := by decide +kernel
theorem dX2_isHeir_20 : decode cX2_isHeir 20 = .ok (.iload_n 1, 1) := by decide +kernel
theorem dX2_isHeir_21 : decode cX2_isHeir 21 = .ok (.ishr, 1) := by decide +kernel
theorem dX2_isHeir_22 : decode cX2_isHeir 22 = .ok (.iconst 1, 1) := by decide +kernel
theorem dX2_isHeir_23 : decode cX2_isHeir 23 = .ok (.iand, 1) := by decide +kernel
theorem dX2_isHeir_24 : decode cX2_isHeir 24 = .ok (.iconst 1, 1) := by decide +kernel
theorem dX2_isHeir_25 : decode cX2_isHeir 25 = .ok (.if_icmp .ne 7, 3) := by decide +kernel
theorem dX2_isHeir_28 : decode cX2_isHeir 28 = .ok (.iconst 1, 1) := by decide +kernel
theorem dX2_isHeir_29 : decode cX2_isHeir 29 = .ok (.goto 4, 3) := by decide +kernel
theorem dX2_isHeir_32 : decode cX2_isHeir 32 = .ok (.iconst 0, 1) := by decide +kernel
theorem dX2_isHeir_33 : decode cX2_isHeir 33 = .ok (.ireturn, 1) := by decide +kernel
set_option maxRecDepth 20000 in
theorem ggX2_isHeirOfDead_X2_isAlive : GoodIn wsX2_isHeirOfDead wsX2_isAlive := goodIn_r _ [5, 6, 7, 8, 4, 9, 15, 16, 17, 18, 19, 20] (by decide +kernel) (by decide +kernel)
set_option maxRecDepth 20000 in
theorem gX2_isHeirOfDead_X2_isAlive : GoodIn wsX2_isHeirOfDead (wsV RX2 64 RX2 yX2_isAlive wsX2_isAlive) := goodIn_app (goodIn_of _ (by decide +kernel)) ggX2_isHeirOfDead_X2_isAlive
set_option maxRecDepth 20000 in
theorem ggX2_isHeirOfDead_X2_isHeir : GoodIn wsX2_isHeirOfDead wsX2_isHeir := goodIn_r _ [13, 14, 7, 8, 4, 9, 15, 16, 17, 18, 19, 20] (by decide +kernel) (by decide +kernel)
set_option maxRecDepth 20000 in
theorem gX2_isHeirOfDead_X2_isHeir : GoodIn wsX2_isHeirOfDead (wsV RX2 153 RX2 yX2_isHeir wsX2_isHeir) := goodIn_app (goodIn_of _ (by decide +kernel)) ggX2_isHeirOfDead_X2_isHeir
theorem dX2_isHeirOfDead_0 : decode cX2_isHeirOfDead 0 = .ok (.aload_n 0, 1) := by decide +kernel
theorem dX2_isHeirOfDead_1 : decode cX2_isHeirOfDead 1 = .ok (.iload_n 2, 1) := by decide +kernel
theorem dX2_isHeirOfDead_2 : decode cX2_isHeirOfDead 2 = .ok (.invokevirtual 64, 3) := by decide +kernel
theorem dX2_isHeirOfDead_5 : decode cX2_isHeirOfDead 5 = .ok (.ifCond .ne 16, 3) := by decide +kernel
theorem dX2_isHeirOfDead_8 : decode cX2_isHeirOfDead 8 = .ok (.aload_n 0, 1) := by decide +kernel
theorem dX2_isHeirOfDead_9 : decode cX2_isHeirOfDead 9 = .ok (.iload_n 1, 1) := by decide +kernel
theorem dX2_isHeirOfDead_10 : decode cX2_isHeirOfDead 10 = .ok (.iload_n 2, 1) := by decide +kernel
theorem dX2_isHeirOfDead_11 : decode cX2_isHeirOfDead 11 = .ok (.invokevirtual 153, 3) := by decide +kernel
theorem dX2_isHeirOfDead_14 : decode cX2_isHeirOfDead 14 = .ok (.ifCond .eq 7, 3) := by decide +kernel
theorem dX2_isHeirOfDead_17 : decode cX2_isHeirOfDead 17 = .ok (.iconst 1, 1) := by decide +kernel
theorem dX2_isHeirOfDead_18 : decode cX2_isHeirOfDead 18 = .ok (.goto 4, 3) := by decide +kernel
theorem dX2_isHeirOfDead_21 : decode cX2_isHeirOfDead 21 = .ok (.iconst 0, 1) := by decide +kernel
theorem dX2_isHeirOfDead_22 : decode cX2_isHeirOfDead 22 = .ok (.ireturn, 1) := by decide +kernel
set_option maxRecDepth 20000 in
theorem ggX2_canWitness_X2_isAlive : GoodIn wsX2_canWitness wsX2_isAlive := goodIn_r _ [5, 6, 7, 8, 4, 9, 20, 21, 22, 23, 24, 25] (by decide +kernel) (by decide +kernel)
set_option maxRecDepth 20000 in
theorem gX2_canWitness_X2_isAlive : GoodIn wsX2_canWitness (wsV RX2 64 RX2 yX2_isAlive wsX2_isAlive) := goodIn_app (goodIn_of _ (by decide +kernel)) ggX2_canWitness_X2_isAlive
theorem dX2_canWitness_0 : decode cX2_canWitness 0 = .ok (.aload_n 0, 1) := by decide +kernel
theorem dX2_canWitness_1 : decode cX2_canWitness 1 = .ok (.iload_n 2, 1) := by decide +kernel
theorem dX2_canWitness_2 : decode cX2_canWitness 2 = .ok (.invokevirtual 64, 3) := by decide +kernel
theorem dX2_canWitness_5 : decode cX2_canWitness 5 = .ok (.ifCond .eq 15, 3) := by decide +kernel
theorem dX2_canWitness_8 : decode cX2_canWitness 8 = .ok (.iload_n 2, 1) := by decide +kernel
theorem dX2_canWitness_9 : decode cX2_canWitness 9 = .ok (.aload_n 1, 1) := by decide +kernel
theorem dX2_canWitness_10 : decode cX2_canWitness 10 = .ok (.getfield 136, 3) := by decide +kernel
theorem dX2_canWitness_13 : decode cX2_canWitness 13 = .ok (.if_icmp .eq 7, 3) := by decide +kernel
theorem dX2_canWitness_16 : decode cX2_canWitness 16 = .ok (.iconst 1, 1) := by decide +kernel
theorem dX2_canWitness_17 : decode cX2_canWitness 17 = .ok (.goto 4, 3) := by decide +kernel
theorem dX2_canWitness_20 : decode cX2_canWitness 20 = .ok (.iconst 0, 1) := by decide +kernel
theorem dX2_canWitness_21 : decode cX2_canWitness 21 = .ok (.ireturn, 1) := by decide +kernel
set_option maxRecDepth 20000 in
theorem ggX2_rightOf_X0_isRented : GoodIn wsX2_rightOf wsX0_isRented := goodIn_r _ [5, 6, 82, 83, 84, 85, 86, 87, 88, 89, 90, 91] (by decide +kernel) (by decide +kernel)
set_option maxRecDepth 20000 in
theorem gX2_rightOf_X0_isRented_n160 : GoodIn wsX2_rightOf (wsX0_isRented) := ggX2_rightOf_X0_isRented
set_option maxRecDepth 20000 in
theorem ggX2_rightOf_X2_isAlive : GoodIn wsX2_rightOf wsX2_isAlive := goodIn_r _ [11, 12, 13, 14, 10, 15, 76, 77, 78, 79, 80, 81] (by decide +kernel) (by decide +kernel)
set_option maxRecDepth 20000 in
theorem gX2_rightOf_X2_isAlive : GoodIn wsX2_rightOf (wsV RX2 64 RX2 yX2_isAlive wsX2_isAlive) := goodIn_app (goodIn_of _ (by decide +kernel)) ggX2_rightOf_X2_isAlive
set_option maxRecDepth 20000 in
theorem ggX2_rightOf_X1_bindingOn : GoodIn wsX2_rightOf wsX1_bindingOn := goodIn_r _ [19, 20, 21, 22, 23, 92, 93, 94, 95, 96, 97] (by decide +kernel) (by decide +kernel)
set_option maxRecDepth 20000 in
theorem gX2_rightOf_X1_bindingOn_n111 : GoodIn wsX2_rightOf (wsX1_bindingOn) := ggX2_rightOf_X1_bindingOn
set_option maxRecDepth 20000 in
theorem ggX2_rightOf_X2_orderAllows : GoodIn wsX2_rightOf wsX2_orderAllows := goodIn_r _ [27, 1, 28, 17, 29, 30, 31, 32, 33, 34, 35, 20, 36, 37, 38, 39, 40, 41, 42, 10, 43, 7, 8, 9, 11, 12, 13, 14, 15, 44, 45, 46, 47, 48, 76, 77, 78, 79, 80, 81, 82, 83, 84, 85, 86, 87, 88, 89, 90, 91, 92, 93, 94, 95, 96, 97] (by decide +kernel) (by decide +kernel)
set_option maxRecDepth 20000 in
theorem gX2_rightOf_X2_orderAllows : GoodIn wsX2_rightOf (wsV RX2 204 RX2 yX2_orderAllows wsX2_orderAllows) := goodIn_app (goodIn_of _ (by decide +kernel)) ggX2_rightOf_X2_orderAllows
set_option maxRecDepth 20000 in
theorem ggX2_rightOf_X2_holderAllows : GoodIn wsX2_rightOf wsX2_holderAllows := goodIn_r _ [52, 53, 54, 3, 55, 56, 57, 58, 59, 60, 61, 62, 63, 64, 65, 66, 67, 68, 69, 70, 71, 72, 73, 74, 75, 76, 77, 78, 79, 80, 81, 82, 83, 84, 85, 86, 87, 88, 89, 90, 91] (by decide +kernel) (by decide +kernel)
set_option maxRecDepth 20000 in
theorem gX2_rightOf_X2_holderAllows : GoodIn wsX2_rightOf (wsV RX2 207 RX2 yX2_holderAllows wsX2_holderAllows) := goodIn_app (goodIn_of _ (by decide +kernel)) ggX2_rightOf_X2_holderAllows
set_option maxRecDepth 20000 in
theorem ggX2_rightOf_X2_isHeir : GoodIn wsX2_rightOf wsX2_isHeir := goodIn_r _ [47, 48, 13, 14, 10, 15, 76, 77, 78, 79, 80, 81] (by decide +kernel) (by decide +kernel)
set_option maxRecDepth 20000 in
theorem gX2_rightOf_X2_isHeir : GoodIn wsX2_rightOf (wsV RX2 153 RX2 yX2_isHeir wsX2_isHeir) := goodIn_app (goodIn_of _ (by decide +kernel)) ggX2_rightOf_X2_isHeir
theorem dX2_rightOf_0 : decode cX2_rightOf 0 = .ok (.aload_n 2, 1) := by decide +kernel
theorem dX2_rightOf_1 : decode cX2_rightOf 1 = .ok (.invokevirtual 160, 3) := by decide +kernel
theorem dX2_rightOf_4 : decode cX2_rightOf 4 = .ok (.ifCond .eq 11, 3) := by decide +kernel
theorem dX2_rightOf_7 : decode cX2_rightOf 7 = .ok (.aload_n 0, 1) := by decide +kernel
theorem dX2_rightOf_8 : decode cX2_rightOf 8 = .ok (.iload_n 3, 1) := by decide +kernel
theorem dX2_rightOf_9 : decode cX2_rightOf 9 = .ok (.invokevirtual 64, 3) := by decide +kernel
theorem dX2_rightOf_12 : decode cX2_rightOf 12 = .ok (.ifCond .ne 5, 3) := by decide +kernel
theorem dX2_rightOf_15 : decode cX2_rightOf 15 = .ok (.iconst 3, 1) := by decide +kernel
theorem dX2_rightOf_16 : decode cX2_rightOf 16 = .ok (.ireturn, 1) := by decide +kernel
theorem dX2_rightOf_17 : decode cX2_rightOf 17 = .ok (.aload_n 0, 1) := by decide +kernel
theorem dX2_rightOf_18 : decode cX2_rightOf 18 = .ok (.getfield 18, 3) := by decide +kernel
theorem dX2_rightOf_21 : decode cX2_rightOf 21 = .ok (.iload_n 1, 1) := by decide +kernel
theorem dX2_rightOf_22 : decode cX2_rightOf 22 = .ok (.invokevirtual 111, 3) := by decide +kernel
theorem dX2_rightOf_25 : decode cX2_rightOf 25 = .ok (.istore 4, 2) := by decide +kernel
theorem dX2_rightOf_27 : decode cX2_rightOf 27 = .ok (.iload 4, 2) := by decide +kernel
theorem dX2_rightOf_29 : decode cX2_rightOf 29 = .ok (.iconst (-1), 1) := by decide +kernel
theorem dX2_rightOf_30 : decode cX2_rightOf 30 = .ok (.if_icmp .eq 20, 3) := by decide +kernel
theorem dX2_rightOf_33 : decode cX2_rightOf 33 = .ok (.aload_n 0, 1) := by decide +kernel
theorem dX2_rightOf_34 : decode cX2_rightOf 34 = .ok (.iload 4, 2) := by decide +kernel
theorem dX2_rightOf_36 : decode cX2_rightOf 36 = .ok (.aload_n 2, 1) := by decide +kernel
theorem dX2_rightOf_37 : decode cX2_rightOf 37 = .ok (.iload_n 3, 1) := by decide +kernel
theorem dX2_rightOf_38 : decode cX2_rightOf 38 = .ok (.invokevirtual 204, 3) := by decide +kernel
theorem dX2_rightOf_41 : decode cX2_rightOf 41 = .ok (.ifCond .eq 7, 3) := by decide +kernel
theorem dX2_rightOf_44 : decode cX2_rightOf 44 = .ok (.iconst 0, 1) := by decide +kernel
theorem dX2_rightOf_45 : decode cX2_rightOf 45 = .ok (.goto 4, 3) := by decide +kernel
theorem dX2_rightOf_48 : decode cX2_rightOf 48 = .ok (.iconst 3, 1) := by decide +kernel
theorem dX2_rightOf_49 : decode cX2_rightOf 49 = .ok (.ireturn, 1) := by decide +kernel
theorem dX2_rightOf_50 : decode cX2_rightOf 50 = .ok (.aload_n 0, 1) := by decide +kernel
theorem dX2_rightOf_51 : decode cX2_rightOf 51 = .ok (.aload_n 2, 1) := by decide +kernel
theorem dX2_rightOf_52 : decode cX2_rightOf 52 = .ok (.getfield 136, 3) := by decide +kernel
theorem dX2_rightOf_55 : decode cX2_rightOf 55 = .ok (.invokevirtual 64, 3) := by decide +kernel
theorem dX2_rightOf_58 : decode cX2_rightOf 58 = .ok (.ifCond .eq 18, 3) := by decide +kernel
theorem dX2_rightOf_61 : decode cX2_rightOf 61 = .ok (.aload_n 0, 1) := by decide +kernel
theorem dX2_rightOf_62 : decode cX2_rightOf 62 = .ok (.aload_n 2, 1) := by decide +kernel
theorem dX2_rightOf_63 : decode cX2_rightOf 63 = .ok (.iload_n 3, 1) := by decide +kernel
theorem dX2_rightOf_64 : decode cX2_rightOf 64 = .ok (.invokevirtual 207, 3) := by decide +kernel
theorem dX2_rightOf_67 : decode cX2_rightOf 67 = .ok (.ifCond .eq 7, 3) := by decide +kernel
theorem dX2_rightOf_70 : decode cX2_rightOf 70 = .ok (.iconst 0, 1) := by decide +kernel
theorem dX2_rightOf_71 : decode cX2_rightOf 71 = .ok (.goto 4, 3) := by decide +kernel
theorem dX2_rightOf_74 : decode cX2_rightOf 74 = .ok (.iconst 3, 1) := by decide +kernel
theorem dX2_rightOf_75 : decode cX2_rightOf 75 = .ok (.ireturn, 1) := by decide +kernel
theorem dX2_rightOf_76 : decode cX2_rightOf 76 = .ok (.aload_n 0, 1) := by decide +kernel
theorem dX2_rightOf_77 : decode cX2_rightOf 77 = .ok (.iload_n 3, 1) := by decide +kernel
theorem dX2_rightOf_78 : decode cX2_rightOf 78 = .ok (.aload_n 2, 1) := by decide +kernel
theorem dX2_rightOf_79 : decode cX2_rightOf 79 = .ok (.getfield 136, 3) := by decide +kernel
theorem dX2_rightOf_82 : decode cX2_rightOf 82 = .ok (.invokevirtual 153, 3) := by decide +kernel
theorem dX2_rightOf_85 : decode cX2_rightOf 85 = .ok (.ifCond .eq 14, 3) := by decide +kernel
theorem dX2_rightOf_88 : decode cX2_rightOf 88 = .ok (.aload_n 2, 1) := by decide +kernel
theorem dX2_rightOf_89 : decode cX2_rightOf 89 = .ok (.getfield 193, 3) := by decide +kernel
theorem dX2_rightOf_92 : decode cX2_rightOf 92 = .ok (.ifCond .ne 7, 3) := by decide +kernel
theorem dX2_rightOf_95 : decode cX2_rightOf 95 = .ok (.iconst 1, 1) := by decide +kernel
theorem dX2_rightOf_96 : decode cX2_rightOf 96 = .ok (.goto 4, 3) := by decide +kernel
theorem dX2_rightOf_99 : decode cX2_rightOf 99 = .ok (.iconst 3, 1) := by decide +kernel
theorem dX2_rightOf_100 : decode cX2_rightOf 100 = .ok (.ireturn, 1) := by decide +kernel
set_option maxRecDepth 20000 in
theorem ggX2_orderAllows_X1_kindOf : GoodIn wsX2_orderAllows wsX1_kindOf := goodIn_r _ [5, 6, 7, 8, 9, 3, 10, 11, 50, 51, 52, 53, 54, 55] (by decide +kernel) (by decide +kernel)
set_option maxRecDepth 20000 in
theorem gX2_orderAllows_X1_kindOf_n114 : GoodIn wsX2_orderAllows (wsX1_kindOf) := ggX2_orderAllows_X1_kindOf
set_option maxRecDepth 20000 in
theorem ggX2_orderAllows_X1_personOf : GoodIn wsX2_orderAllows wsX1_personOf := goodIn_r _ [14, 15, 7, 8, 9, 3, 10, 11, 50, 51, 52, 53, 54, 55] (by decide +kernel) (by decide +kernel)
set_option maxRecDepth 20000 in
theorem gX2_orderAllows_X1_personOf_n210 : GoodIn wsX2_orderAllows (wsX1_personOf) := ggX2_orderAllows_X1_personOf
set_option maxRecDepth 20000 in
theorem ggX2_orderAllows_X2_isHeirOfDead : GoodIn wsX2_orderAllows wsX2_isHeirOfDead := goodIn_r _ [20, 21, 22, 23, 19, 24, 25, 26, 27, 28, 29, 30, 31, 32, 33, 34, 35, 36, 37, 38, 39] (by decide +kernel) (by decide +kernel)
set_option maxRecDepth 20000 in
theorem gX2_orderAllows_X2_isHeirOfDead : GoodIn wsX2_orderAllows (wsV RX2 213 RX2 yX2_isHeirOfDead wsX2_isHeirOfDead) := goodIn_app (goodIn_of _ (by decide +kernel)) ggX2_orderAllows_X2_isHeirOfDead
theorem dX2_orderAllows_0 : decode cX2_orderAllows 0 = .ok (.aload_n 0, 1) := by decide +kernel
theorem dX2_orderAllows_1 : decode cX2_orderAllows 1 = .ok (.getfield 18, 3) := by decide +kernel
theorem dX2_orderAllows_4 : decode cX2_orderAllows 4 = .ok (.iload_n 1, 1) := by decide +kernel
theorem dX2_orderAllows_5 : decode cX2_orderAllows 5 = .ok (.invokevirtual 114, 3) := by decide +kernel
theorem dX2_orderAllows_8 : decode cX2_orderAllows 8 = .ok (.lookupswitch 56 #[(1, 28), (2, 46)], 28) := by decide +kernel
theorem dX2_orderAllows_36 : decode cX2_orderAllows 36 = .ok (.iload_n 3, 1) := by decide +kernel
theorem dX2_orderAllows_37 : decode cX2_orderAllows 37 = .ok (.aload_n 0, 1) := by decide +kernel
theorem dX2_orderAllows_38 : decode cX2_orderAllows 38 = .ok (.getfield 18, 3) := by decide +kernel
theorem dX2_orderAllows_41 : decode cX2_orderAllows 41 = .ok (.iload_n 1, 1) := by decide +kernel
theorem dX2_orderAllows_42 : decode cX2_orderAllows 42 = .ok (.invokevirtual 210, 3) := by decide +kernel
theorem dX2_orderAllows_45 : decode cX2_orderAllows 45 = .ok (.if_icmp .ne 7, 3) := by decide +kernel
theorem dX2_orderAllows_48 : decode cX2_orderAllows 48 = .ok (.iconst 1, 1) := by decide +kernel
theorem dX2_orderAllows_49 : decode cX2_orderAllows 49 = .ok (.goto 4, 3) := by decide +kernel
theorem dX2_orderAllows_52 : decode cX2_orderAllows 52 = .ok (.iconst 0, 1) := by decide +kernel
theorem dX2_orderAllows_53 : decode cX2_orderAllows 53 = .ok (.ireturn, 1) := by decide +kernel
theorem dX2_orderAllows_54 : decode cX2_orderAllows 54 = .ok (.aload_n 0, 1) := by decide +kernel
theorem dX2_orderAllows_55 : decode cX2_orderAllows 55 = .ok (.iload_n 3, 1) := by decide +kernel
theorem dX2_orderAllows_56 : decode cX2_orderAllows 56 = .ok (.aload_n 2, 1) := by decide +kernel
theorem dX2_orderAllows_57 : decode cX2_orderAllows 57 = .ok (.getfield 136, 3) := by decide +kernel
theorem dX2_orderAllows_60 : decode cX2_orderAllows 60 = .ok (.invokevirtual 213, 3) := by decide +kernel
theorem dX2_orderAllows_63 : decode cX2_orderAllows 63 = .ok (.ireturn, 1) := by decide +kernel
theorem dX2_orderAllows_64 : decode cX2_orderAllows 64 = .ok (.iconst 0, 1) := by decide +kernel
theorem dX2_orderAllows_65 : decode cX2_orderAllows 65 = .ok (.ireturn, 1) := by decide +kernel
set_option maxRecDepth 20000 in
theorem ggX2_holderAllows_X0_noticesOn : GoodIn wsX2_holderAllows wsX0_noticesOn := goodIn_r _ [5, 6, 7, 8, 9, 10, 11, 12, 3, 13, 14, 15, 16, 17, 31, 32, 33, 34, 35, 36, 37, 38, 39, 40] (by decide +kernel) (by decide +kernel)
set_option maxRecDepth 20000 in
theorem gX2_holderAllows_X0_noticesOn_n99 : GoodIn wsX2_holderAllows (wsX0_noticesOn) := ggX2_holderAllows_X0_noticesOn
set_option maxRecDepth 20000 in
theorem ggX2_holderAllows_X0_hasProxyOn : GoodIn wsX2_holderAllows wsX0_hasProxyOn := goodIn_r _ [20, 21, 22, 23, 24, 31, 32, 33, 34, 35, 36, 37, 38, 39, 40] (by decide +kernel) (by decide +kernel)
set_option maxRecDepth 20000 in
theorem gX2_holderAllows_X0_hasProxyOn_n216 : GoodIn wsX2_holderAllows (wsX0_hasProxyOn) := ggX2_holderAllows_X0_hasProxyOn
theorem dX2_holderAllows_0 : decode cX2_holderAllows 0 = .ok (.aload_n 1, 1) := by decide +kernel
theorem dX2_holderAllows_1 : decode cX2_holderAllows 1 = .ok (.aload_n 0, 1) := by decide +kernel
theorem dX2_holderAllows_2 : decode cX2_holderAllows 2 = .ok (.getfield 33, 3) := by decide +kernel
theorem dX2_holderAllows_5 : decode cX2_holderAllows 5 = .ok (.invokevirtual 99, 3) := by decide +kernel
theorem dX2_holderAllows_8 : decode cX2_holderAllows 8 = .ok (.ifCond .ne 27, 3) := by decide +kernel
theorem dX2_holderAllows_11 : decode cX2_holderAllows 11 = .ok (.iload_n 2, 1) := by decide +kernel
theorem dX2_holderAllows_12 : decode cX2_holderAllows 12 = .ok (.aload_n 1, 1) := by decide +kernel
theorem dX2_holderAllows_13 : decode cX2_holderAllows 13 = .ok (.getfield 136, 3) := by decide +kernel
theorem dX2_holderAllows_16 : decode cX2_holderAllows 16 = .ok (.if_icmp .eq 15, 3) := by decide +kernel
theorem dX2_holderAllows_19 : decode cX2_holderAllows 19 = .ok (.aload_n 1, 1) := by decide +kernel
theorem dX2_holderAllows_20 : decode cX2_holderAllows 20 = .ok (.aload_n 0, 1) := by decide +kernel
theorem dX2_holderAllows_21 : decode cX2_holderAllows 21 = .ok (.getfield 33, 3) := by decide +kernel
theorem dX2_holderAllows_24 : decode cX2_holderAllows 24 = .ok (.iload_n 2, 1) := by decide +kernel
theorem dX2_holderAllows_25 : decode cX2_holderAllows 25 = .ok (.invokevirtual 216, 3) := by decide +kernel
theorem dX2_holderAllows_28 : decode cX2_holderAllows 28 = .ok (.ifCond .eq 7, 3) := by decide +kernel
theorem dX2_holderAllows_31 : decode cX2_holderAllows 31 = .ok (.iconst 1, 1) := by decide +kernel
theorem dX2_holderAllows_32 : decode cX2_holderAllows 32 = .ok (.goto 4, 3) := by decide +kernel
theorem dX2_holderAllows_35 : decode cX2_holderAllows 35 = .ok (.iconst 0, 1) := by decide +kernel
theorem dX2_holderAllows_36 : decode cX2_holderAllows 36 = .ok (.ireturn, 1) := by decide +kernel
set_option maxRecDepth 20000 in
theorem ggX2_mayFetch_X2_isAlive : GoodIn wsX2_mayFetch wsX2_isAlive := goodIn_r _ [6, 7, 8, 9, 5, 10, 44, 45, 46, 47, 48, 49] (by decide +kernel) (by decide +kernel)
set_option maxRecDepth 20000 in
theorem gX2_mayFetch_X2_isAlive : GoodIn wsX2_mayFetch (wsV RX2 64 RX2 yX2_isAlive wsX2_isAlive) := goodIn_app (goodIn_of _ (by decide +kernel)) ggX2_mayFetch_X2_isAlive
set_option maxRecDepth 20000 in
theorem ggX2_mayFetch_X1_bindingOn : GoodIn wsX2_mayFetch wsX1_bindingOn := goodIn_r _ [14, 15, 16, 17, 18, 60, 61, 62, 63, 64, 65] (by decide +kernel) (by decide +kernel)
set_option maxRecDepth 20000 in
theorem gX2_mayFetch_X1_bindingOn_n111 : GoodIn wsX2_mayFetch (wsX1_bindingOn) := ggX2_mayFetch_X1_bindingOn
set_option maxRecDepth 20000 in
theorem ggX2_mayFetch_X2_orderAllows : GoodIn wsX2_mayFetch wsX2_orderAllows := goodIn_r _ [22, 1, 23, 12, 24, 25, 26, 27, 28, 29, 30, 15, 31, 32, 33, 34, 35, 36, 37, 5, 38, 2, 3, 4, 6, 7, 8, 9, 10, 39, 40, 41, 42, 43, 44, 45, 46, 47, 48, 49, 50, 51, 52, 53, 54, 55, 56, 57, 58, 59, 60, 61, 62, 63, 64, 65] (by decide +kernel) (by decide +kernel)
set_option maxRecDepth 20000 in
theorem gX2_mayFetch_X2_orderAllows : GoodIn wsX2_mayFetch (wsV RX2 204 RX2 yX2_orderAllows wsX2_orderAllows) := goodIn_app (goodIn_of _ (by decide +kernel)) ggX2_mayFetch_X2_orderAllows
set_option maxRecDepth 20000 in
theorem ggX2_mayFetch_X2_isHeirOfDead : GoodIn wsX2_mayFetch wsX2_isHeirOfDead := goodIn_r _ [38, 2, 3, 4, 5, 6, 7, 8, 9, 10, 39, 40, 41, 42, 43, 44, 45, 46, 47, 48, 49] (by decide +kernel) (by decide +kernel)
set_option maxRecDepth 20000 in
theorem gX2_mayFetch_X2_isHeirOfDead : GoodIn wsX2_mayFetch (wsV RX2 213 RX2 yX2_isHeirOfDead wsX2_isHeirOfDead) := goodIn_app (goodIn_of _ (by decide +kernel)) ggX2_mayFetch_X2_isHeirOfDead
theorem dX2_mayFetch_0 : decode cX2_mayFetch 0 = .ok (.aload_n 0, 1) := by decide +kernel
theorem dX2_mayFetch_1 : decode cX2_mayFetch 1 = .ok (.iload_n 3, 1) := by decide +kernel
theorem dX2_mayFetch_2 : decode cX2_mayFetch 2 = .ok (.invokevirtual 64, 3) := by decide +kernel
theorem dX2_mayFetch_5 : decode cX2_mayFetch 5 = .ok (.ifCond .ne 5, 3) := by decide +kernel
theorem dX2_mayFetch_8 : decode cX2_mayFetch 8 = .ok (.iconst 0, 1) := by decide +kernel
theorem dX2_mayFetch_9 : decode cX2_mayFetch 9 = .ok (.ireturn, 1) := by decide +kernel
theorem dX2_mayFetch_10 : decode cX2_mayFetch 10 = .ok (.aload_n 0, 1) := by decide +kernel
theorem dX2_mayFetch_11 : decode cX2_mayFetch 11 = .ok (.getfield 18, 3) := by decide +kernel
theorem dX2_mayFetch_14 : decode cX2_mayFetch 14 = .ok (.iload_n 1, 1) := by decide +kernel
theorem dX2_mayFetch_15 : decode cX2_mayFetch 15 = .ok (.invokevirtual 111, 3) := by decide +kernel
theorem dX2_mayFetch_18 : decode cX2_mayFetch 18 = .ok (.istore 4, 2) := by decide +kernel
theorem dX2_mayFetch_20 : decode cX2_mayFetch 20 = .ok (.iload 4, 2) := by decide +kernel
theorem dX2_mayFetch_22 : decode cX2_mayFetch 22 = .ok (.iconst (-1), 1) := by decide +kernel
theorem dX2_mayFetch_23 : decode cX2_mayFetch 23 = .ok (.if_icmp .eq 12, 3) := by decide +kernel
theorem dX2_mayFetch_26 : decode cX2_mayFetch 26 = .ok (.aload_n 0, 1) := by decide +kernel
theorem dX2_mayFetch_27 : decode cX2_mayFetch 27 = .ok (.iload 4, 2) := by decide +kernel
theorem dX2_mayFetch_29 : decode cX2_mayFetch 29 = .ok (.aload_n 2, 1) := by decide +kernel
theorem dX2_mayFetch_30 : decode cX2_mayFetch 30 = .ok (.iload_n 3, 1) := by decide +kernel
theorem dX2_mayFetch_31 : decode cX2_mayFetch 31 = .ok (.invokevirtual 204, 3) := by decide +kernel
theorem dX2_mayFetch_34 : decode cX2_mayFetch 34 = .ok (.ireturn, 1) := by decide +kernel
theorem dX2_mayFetch_35 : decode cX2_mayFetch 35 = .ok (.iload_n 3, 1) := by decide +kernel
theorem dX2_mayFetch_36 : decode cX2_mayFetch 36 = .ok (.aload_n 2, 1) := by decide +kernel
theorem dX2_mayFetch_37 : decode cX2_mayFetch 37 = .ok (.getfield 136, 3) := by decide +kernel
theorem dX2_mayFetch_40 : decode cX2_mayFetch 40 = .ok (.if_icmp .eq 15, 3) := by decide +kernel
theorem dX2_mayFetch_43 : decode cX2_mayFetch 43 = .ok (.aload_n 0, 1) := by decide +kernel
theorem dX2_mayFetch_44 : decode cX2_mayFetch 44 = .ok (.iload_n 3, 1) := by decide +kernel
theorem dX2_mayFetch_45 : decode cX2_mayFetch 45 = .ok (.aload_n 2, 1) := by decide +kernel
theorem dX2_mayFetch_46 : decode cX2_mayFetch 46 = .ok (.getfield 136, 3) := by decide +kernel
theorem dX2_mayFetch_49 : decode cX2_mayFetch 49 = .ok (.invokevirtual 213, 3) := by decide +kernel
theorem dX2_mayFetch_52 : decode cX2_mayFetch 52 = .ok (.ifCond .eq 7, 3) := by decide +kernel
theorem dX2_mayFetch_55 : decode cX2_mayFetch 55 = .ok (.iconst 1, 1) := by decide +kernel
theorem dX2_mayFetch_56 : decode cX2_mayFetch 56 = .ok (.goto 4, 3) := by decide +kernel
theorem dX2_mayFetch_59 : decode cX2_mayFetch 59 = .ok (.iconst 0, 1) := by decide +kernel
theorem dX2_mayFetch_60 : decode cX2_mayFetch 60 = .ok (.ireturn, 1) := by decide +kernel
set_option maxRecDepth 20000 in
theorem ggX2_makeFree_X0_empty : GoodIn wsX2_makeFree wsX0_empty := goodIn_r _ [5, 6, 7, 8, 9, 10, 3, 11, 12, 26, 27, 28, 29, 30, 31, 32, 33, 34, 35] (by decide +kernel) (by decide +kernel)
set_option maxRecDepth 20000 in
theorem gX2_makeFree_X0_empty_n219 : GoodIn wsX2_makeFree (wsX0_empty) := ggX2_makeFree_X0_empty
set_option maxRecDepth 20000 in
theorem ggX2_makeFree_X1_endAllOn : GoodIn wsX2_makeFree wsX1_endAllOn := goodIn_r _ [16, 17, 18, 19, 36, 37, 38, 39, 40, 41] (by decide +kernel) (by decide +kernel)
set_option maxRecDepth 20000 in
theorem gX2_makeFree_X1_endAllOn_n222 : GoodIn wsX2_makeFree (wsX1_endAllOn) := ggX2_makeFree_X1_endAllOn
theorem dX2_makeFree_0 : decode cX2_makeFree 0 = .ok (.aload_n 2, 1) := by decide +kernel
theorem dX2_makeFree_1 : decode cX2_makeFree 1 = .ok (.invokevirtual 219, 3) := by decide +kernel
theorem dX2_makeFree_4 : decode cX2_makeFree 4 = .ok (.aload_n 0, 1) := by decide +kernel
theorem dX2_makeFree_5 : decode cX2_makeFree 5 = .ok (.getfield 18, 3) := by decide +kernel
theorem dX2_makeFree_8 : decode cX2_makeFree 8 = .ok (.iload_n 1, 1) := by decide +kernel
theorem dX2_makeFree_9 : decode cX2_makeFree 9 = .ok (.invokevirtual 222, 3) := by decide +kernel
theorem dX2_makeFree_12 : decode cX2_makeFree 12 = .ok (.return_, 1) := by decide +kernel
end
section
theorem dX3_init_0 : decode cX3_init 0 = .ok (.aload_n 0, 1) := by decide +kernel
theorem dX3_init_1 : decode cX3_init 1 = .ok (.invokespecial 1, 3) := by decide +kernel
theorem dX3_init_4 : decode cX3_init 4 = .ok (.aload_n 0, 1) := by decide +kernel
theorem dX3_init_5 : decode cX3_init 5 = .ok (.bipush 16, 2) := by decide +kernel
theorem dX3_init_7 : decode cX3_init 7 = .ok (.newarray .boolean, 2) := by decide +kernel
theorem dX3_init_9 : decode cX3_init 9 = .ok (.putfield 7, 3) := by decide +kernel
theorem dX3_init_12 : decode cX3_init 12 = .ok (.aload_n 0, 1) := by decide +kernel
theorem dX3_init_13 : decode cX3_init 13 = .ok (.bipush 16, 2) := by decide +kernel
theorem dX3_init_15 : decode cX3_init 15 = .ok (.newarray .int, 2) := by decide +kernel
theorem dX3_init_17 : decode cX3_init 17 = .ok (.putfield 13, 3) := by decide +kernel
theorem dX3_init_20 : decode cX3_init 20 = .ok (.aload_n 0, 1) := by decide +kernel
theorem dX3_init_21 : decode cX3_init 21 = .ok (.bipush 16, 2) := by decide +kernel
theorem dX3_init_23 : decode cX3_init 23 = .ok (.newarray .int, 2) := by decide +kernel
theorem dX3_init_25 : decode cX3_init 25 = .ok (.putfield 17, 3) := by decide +kernel
theorem dX3_init_28 : decode cX3_init 28 = .ok (.aload_n 0, 1) := by decide +kernel
theorem dX3_init_29 : decode cX3_init 29 = .ok (.bipush 8, 2) := by decide +kernel
theorem dX3_init_31 : decode cX3_init 31 = .ok (.newarray .int, 2) := by decide +kernel
theorem dX3_init_33 : decode cX3_init 33 = .ok (.putfield 20, 3) := by decide +kernel
theorem dX3_init_36 : decode cX3_init 36 = .ok (.aload_n 0, 1) := by decide +kernel
theorem dX3_init_37 : decode cX3_init 37 = .ok (.bipush 8, 2) := by decide +kernel
theorem dX3_init_39 : decode cX3_init 39 = .ok (.newarray .int, 2) := by decide +kernel
theorem dX3_init_41 : decode cX3_init 41 = .ok (.putfield 23, 3) := by decide +kernel
theorem dX3_init_44 : decode cX3_init 44 = .ok (.aload_n 0, 1) := by decide +kernel
theorem dX3_init_45 : decode cX3_init 45 = .ok (.bipush 8, 2) := by decide +kernel
theorem dX3_init_47 : decode cX3_init 47 = .ok (.newarray .int, 2) := by decide +kernel
theorem dX3_init_49 : decode cX3_init 49 = .ok (.putfield 26, 3) := by decide +kernel
theorem dX3_init_52 : decode cX3_init 52 = .ok (.aload_n 0, 1) := by decide +kernel
theorem dX3_init_53 : decode cX3_init 53 = .ok (.bipush 8, 2) := by decide +kernel
theorem dX3_init_55 : decode cX3_init 55 = .ok (.newarray .int, 2) := by decide +kernel
theorem dX3_init_57 : decode cX3_init 57 = .ok (.putfield 29, 3) := by decide +kernel
theorem dX3_init_60 : decode cX3_init 60 = .ok (.aload_n 0, 1) := by decide +kernel
theorem dX3_init_61 : decode cX3_init 61 = .ok (.bipush 8, 2) := by decide +kernel
theorem dX3_init_63 : decode cX3_init 63 = .ok (.newarray .boolean, 2) := by decide +kernel
theorem dX3_init_65 : decode cX3_init 65 = .ok (.putfield 32, 3) := by decide +kernel
theorem dX3_init_68 : decode cX3_init 68 = .ok (.aload_n 0, 1) := by decide +kernel
theorem dX3_init_69 : decode cX3_init 69 = .ok (.bipush 8, 2) := by decide +kernel
theorem dX3_init_71 : decode cX3_init 71 = .ok (.newarray .int, 2) := by decide +kernel
theorem dX3_init_73 : decode cX3_init 73 = .ok (.putfield 35, 3) := by decide +kernel
theorem dX3_init_76 : decode cX3_init 76 = .ok (.aload_n 0, 1) := by decide +kernel
theorem dX3_init_77 : decode cX3_init 77 = .ok (.bipush 8, 2) := by decide +kernel
theorem dX3_init_79 : decode cX3_init 79 = .ok (.newarray .int, 2) := by decide +kernel
theorem dX3_init_81 : decode cX3_init 81 = .ok (.putfield 38, 3) := by decide +kernel
theorem dX3_init_84 : decode cX3_init 84 = .ok (.aload_n 0, 1) := by decide +kernel
theorem dX3_init_85 : decode cX3_init 85 = .ok (.bipush 40, 2) := by decide +kernel
theorem dX3_init_87 : decode cX3_init 87 = .ok (.newarray .int, 2) := by decide +kernel
theorem dX3_init_89 : decode cX3_init 89 = .ok (.putfield 41, 3) := by decide +kernel
theorem dX3_init_92 : decode cX3_init 92 = .ok (.aload_n 0, 1) := by decide +kernel
theorem dX3_init_93 : decode cX3_init 93 = .ok (.bipush 40, 2) := by decide +kernel
theorem dX3_init_95 : decode cX3_init 95 = .ok (.newarray .int, 2) := by decide +kernel
theorem dX3_init_97 : decode cX3_init 97 = .ok (.putfield 44, 3) := by decide +kernel
theorem dX3_init_100 : decode cX3_init 100 = .ok (.aload_n 0, 1) := by decide +kernel
theorem dX3_init_101 : decode cX3_init 101 = .ok (.bipush 40, 2) := by decide +kernel
theorem dX3_init_103 : decode cX3_init 103 = .ok (.newarray .int, 2) := by decide +kernel
theorem dX3_init_105 : decode cX3_init 105 = .ok (.putfield 47, 3) := by decide +kernel
theorem dX3_init_108 : decode cX3_init 108 = .ok (.aload_n 0, 1) := by decide +kernel
theorem dX3_init_109 : decode cX3_init 109 = .ok (.bipush 30, 2) := by decide +kernel
theorem dX3_init_111 : decode cX3_init 111 = .ok (.newarray .int, 2) := by decide +kernel
theorem dX3_init_113 : decode cX3_init 113 = .ok (.putfield 50, 3) := by decide +kernel
theorem dX3_init_116 : decode cX3_init 116 = .ok (.aload_n 0, 1) := by decide +kernel
theorem dX3_init_117 : decode cX3_init 117 = .ok (.bipush 30, 2) := by decide +kernel
theorem dX3_init_119 : decode cX3_init 119 = .ok (.newarray .int, 2) := by decide +kernel
theorem dX3_init_121 : decode cX3_init 121 = .ok (.putfield 53, 3) := by decide +kernel
theorem dX3_init_124 : decode cX3_init 124 = .ok (.aload_n 0, 1) := by decide +kernel
theorem dX3_init_125 : decode cX3_init 125 = .ok (.bipush 30, 2) := by decide +kernel
theorem dX3_init_127 : decode cX3_init 127 = .ok (.newarray .int, 2) := by decide +kernel
theorem dX3_init_129 : decode cX3_init 129 = .ok (.putfield 56, 3) := by decide +kernel
theorem dX3_init_132 : decode cX3_init 132 = .ok (.aload_n 0, 1) := by decide +kernel
theorem dX3_init_133 : decode cX3_init 133 = .ok (.bipush 30, 2) := by decide +kernel
theorem dX3_init_135 : decode cX3_init 135 = .ok (.newarray .int, 2) := by decide +kernel
theorem dX3_init_137 : decode cX3_init 137 = .ok (.putfield 59, 3) := by decide +kernel
theorem dX3_init_140 : decode cX3_init 140 = .ok (.aload_n 0, 1) := by decide +kernel
theorem dX3_init_141 : decode cX3_init 141 = .ok (.bipush 30, 2) := by decide +kernel
theorem dX3_init_143 : decode cX3_init 143 = .ok (.newarray .boolean, 2) := by decide +kernel
theorem dX3_init_145 : decode cX3_init 145 = .ok (.putfield 62, 3) := by decide +kernel
theorem dX3_init_148 : decode cX3_init 148 = .ok (.return_, 1) := by decide +kernel
theorem dX3_thrown_0 : decode cX3_thrown 0 = .ok (.aload_n 0, 1) := by decide +kernel
theorem dX3_thrown_1 : decode cX3_thrown 1 = .ok (.getfield 65, 3) := by decide +kernel
theorem dX3_thrown_4 : decode cX3_thrown 4 = .ok (.ireturn, 1) := by decide +kernel
theorem dX3_fails_0 : decode cX3_fails 0 = .ok (.aload_n 0, 1) := by decide +kernel
theorem dX3_fails_1 : decode cX3_fails 1 = .ok (.iload_n 1, 1) := by decide +kernel
theorem dX3_fails_2 : decode cX3_fails 2 = .ok (.putfield 65, 3) := by decide +kernel
theorem dX3_fails_5 : decode cX3_fails 5 = .ok (.iconst 0, 1) := by decide +kernel
theorem dX3_fails_6 : decode cX3_fails 6 = .ok (.ireturn, 1) := by decide +kernel
theorem dX3_in_0 : decode cX3_in 0 = .ok (.iload_n 0, 1) := by decide +kernel
theorem dX3_in_1 : decode cX3_in 1 = .ok (.iload_n 1, 1) := by decide +kernel
theorem dX3_in_2 : decode cX3_in 2 = .ok (.if_icmp .lt 12, 3) := by decide +kernel
theorem dX3_in_5 : decode cX3_in 5 = .ok (.iload_n 0, 1) := by decide +kernel
theorem dX3_in_6 : decode cX3_in 6 = .ok (.iload_n 2, 1) := by decide +kernel
theorem dX3_in_7 : decode cX3_in 7 = .ok (.if_icmp .gt 7, 3) := by decide +kernel
theorem dX3_in_10 : decode cX3_in 10 = .ok (.iconst 1, 1) := by decide +kernel
theorem dX3_in_11 : decode cX3_in 11 = .ok (.goto 4, 3) := by decide +kernel
theorem dX3_in_14 : decode cX3_in 14 = .ok (.iconst 0, 1) := by decide +kernel
theorem dX3_in_15 : decode cX3_in 15 = .ok (.ireturn, 1) := by decide +kernel
set_option maxRecDepth 20000 in
theorem ggX3_isBox_X3_in : GoodIn wsX3_isBox wsX3_in := goodIn_r _ [4] (by decide +kernel) (by decide +kernel)
set_option maxRecDepth 20000 in
theorem gX3_isBox_X3_in : GoodIn wsX3_isBox (va_wsS RX3 69 yX3_in wsX3_in) := goodIn_app (goodIn_of _ (by decide +kernel)) ggX3_isBox_X3_in
theorem dX3_isBox_0 : decode cX3_isBox 0 = .ok (.iload_n 0, 1) := by decide +kernel
theorem dX3_isBox_1 : decode cX3_isBox 1 = .ok (.iconst 0, 1) := by decide +kernel
theorem dX3_isBox_2 : decode cX3_isBox 2 = .ok (.bipush 7, 2) := by decide +kernel
theorem dX3_isBox_4 : decode cX3_isBox 4 = .ok (.invokestatic 69, 3) := by decide +kernel
theorem dX3_isBox_7 : decode cX3_isBox 7 = .ok (.ireturn, 1) := by decide +kernel
set_option maxRecDepth 20000 in
theorem ggX3_isPerson_X3_in : GoodIn wsX3_isPerson wsX3_in := goodIn_r _ [4] (by decide +kernel) (by decide +kernel)
set_option maxRecDepth 20000 in
theorem gX3_isPerson_X3_in : GoodIn wsX3_isPerson (va_wsS RX3 69 yX3_in wsX3_in) := goodIn_app (goodIn_of _ (by decide +kernel)) ggX3_isPerson_X3_in
theorem dX3_isPerson_0 : decode cX3_isPerson 0 = .ok (.iload_n 0, 1) := by decide +kernel
theorem dX3_isPerson_1 : decode cX3_isPerson 1 = .ok (.iconst 0, 1) := by decide +kernel
theorem dX3_isPerson_2 : decode cX3_isPerson 2 = .ok (.bipush 15, 2) := by decide +kernel
theorem dX3_isPerson_4 : decode cX3_isPerson 4 = .ok (.invokestatic 69, 3) := by decide +kernel
theorem dX3_isPerson_7 : decode cX3_isPerson 7 = .ok (.ireturn, 1) := by decide +kernel
theorem dX3_isRented_0 : decode cX3_isRented 0 = .ok (.aload_n 0, 1) := by decide +kernel
theorem dX3_isRented_1 : decode cX3_isRented 1 = .ok (.getfield 20, 3) := by decide +kernel
theorem dX3_isRented_4 : decode cX3_isRented 4 = .ok (.iload_n 1, 1) := by decide +kernel
theorem dX3_isRented_5 : decode cX3_isRented 5 = .ok (.iaload, 1) := by decide +kernel
theorem dX3_isRented_6 : decode cX3_isRented 6 = .ok (.iconst 1, 1) := by decide +kernel
theorem dX3_isRented_7 : decode cX3_isRented 7 = .ok (.if_icmp .ne 7, 3) := by decide +kernel
theorem dX3_isRented_10 : decode cX3_isRented 10 = .ok (.iconst 1, 1) := by decide +kernel
theorem dX3_isRented_11 : decode cX3_isRented 11 = .ok (.goto 4, 3) := by decide +kernel
theorem dX3_isRented_14 : decode cX3_isRented 14 = .ok (.iconst 0, 1) := by decide +kernel
theorem dX3_isRented_15 : decode cX3_isRented 15 = .ok (.ireturn, 1) := by decide +kernel
theorem dX3_overdue_0 : decode cX3_overdue 0 = .ok (.aload_n 0, 1) := by decide +kernel
theorem dX3_overdue_1 : decode cX3_overdue 1 = .ok (.getfield 73, 3) := by decide +kernel
theorem dX3_overdue_4 : decode cX3_overdue 4 = .ok (.aload_n 0, 1) := by decide +kernel
theorem dX3_overdue_5 : decode cX3_overdue 5 = .ok (.getfield 26, 3) := by decide +kernel
theorem dX3_overdue_8 : decode cX3_overdue 8 = .ok (.iload_n 1, 1) := by decide +kernel
theorem dX3_overdue_9 : decode cX3_overdue 9 = .ok (.iaload, 1) := by decide +kernel
theorem dX3_overdue_10 : decode cX3_overdue 10 = .ok (.if_icmp .le 17, 3) := by decide +kernel
theorem dX3_overdue_13 : decode cX3_overdue 13 = .ok (.aload_n 0, 1) := by decide +kernel
theorem dX3_overdue_14 : decode cX3_overdue 14 = .ok (.getfield 73, 3) := by decide +kernel
theorem dX3_overdue_17 : decode cX3_overdue 17 = .ok (.aload_n 0, 1) := by decide +kernel
theorem dX3_overdue_18 : decode cX3_overdue 18 = .ok (.getfield 26, 3) := by decide +kernel
theorem dX3_overdue_21 : decode cX3_overdue 21 = .ok (.iload_n 1, 1) := by decide +kernel
theorem dX3_overdue_22 : decode cX3_overdue 22 = .ok (.iaload, 1) := by decide +kernel
theorem dX3_overdue_23 : decode cX3_overdue 23 = .ok (.isub, 1) := by decide +kernel
theorem dX3_overdue_24 : decode cX3_overdue 24 = .ok (.goto 4, 3) := by decide +kernel
theorem dX3_overdue_27 : decode cX3_overdue 27 = .ok (.iconst 0, 1) := by decide +kernel
theorem dX3_overdue_28 : decode cX3_overdue 28 = .ok (.ireturn, 1) := by decide +kernel
set_option maxRecDepth 20000 in
theorem ggX3_noticesOf_X3_overdue : GoodIn wsX3_noticesOf wsX3_overdue := goodIn_r _ [5, 6, 7, 13, 14, 15, 16, 17, 18, 19, 20, 21, 22, 23, 24, 25, 26, 27, 28, 29, 30, 31, 32, 33] (by decide +kernel) (by decide +kernel)
set_option maxRecDepth 20000 in
theorem gX3_noticesOf_X3_overdue : GoodIn wsX3_noticesOf (wsV RX3 76 RX3 yX3_overdue wsX3_overdue) := goodIn_app (goodIn_of _ (by decide +kernel)) ggX3_noticesOf_X3_overdue
set_option maxRecDepth 20000 in
theorem ggX3_noticesOf_X3_isRented : GoodIn wsX3_noticesOf wsX3_isRented := goodIn_r _ [11, 12, 13, 14, 15, 16, 17, 18, 19, 20, 21, 22, 23, 24, 25, 26, 27, 28, 29, 30, 31, 32, 33] (by decide +kernel) (by decide +kernel)
set_option maxRecDepth 20000 in
theorem gX3_noticesOf_X3_isRented : GoodIn wsX3_noticesOf (wsV RX3 80 RX3 yX3_isRented wsX3_isRented) := goodIn_app (goodIn_of _ (by decide +kernel)) ggX3_noticesOf_X3_isRented
theorem dX3_noticesOf_0 : decode cX3_noticesOf 0 = .ok (.aload_n 0, 1) := by decide +kernel
theorem dX3_noticesOf_1 : decode cX3_noticesOf 1 = .ok (.iload_n 1, 1) := by decide +kernel
theorem dX3_noticesOf_2 : decode cX3_noticesOf 2 = .ok (.invokevirtual 76, 3) := by decide +kernel
theorem dX3_noticesOf_5 : decode cX3_noticesOf 5 = .ok (.bipush 30, 2) := by decide +kernel
theorem dX3_noticesOf_7 : decode cX3_noticesOf 7 = .ok (.idiv, 1) := by decide +kernel
theorem dX3_noticesOf_8 : decode cX3_noticesOf 8 = .ok (.istore_n 2, 1) := by decide +kernel
theorem dX3_noticesOf_9 : decode cX3_noticesOf 9 = .ok (.aload_n 0, 1) := by decide +kernel
theorem dX3_noticesOf_10 : decode cX3_noticesOf 10 = .ok (.iload_n 1, 1) := by decide +kernel
theorem dX3_noticesOf_11 : decode cX3_noticesOf 11 = .ok (.invokevirtual 80, 3) := by decide +kernel
theorem dX3_noticesOf_14 : decode cX3_noticesOf 14 = .ok (.ifCond .ne 7, 3) := by decide +kernel
theorem dX3_noticesOf_17 : decode cX3_noticesOf 17 = .ok (.iconst 0, 1) := by decide +kernel
theorem dX3_noticesOf_18 : decode cX3_noticesOf 18 = .ok (.goto 13, 3) := by decide +kernel
theorem dX3_noticesOf_21 : decode cX3_noticesOf 21 = .ok (.iload_n 2, 1) := by decide +kernel
theorem dX3_noticesOf_22 : decode cX3_noticesOf 22 = .ok (.iconst 3, 1) := by decide +kernel
theorem dX3_noticesOf_23 : decode cX3_noticesOf 23 = .ok (.if_icmp .le 7, 3) := by decide +kernel
theorem dX3_noticesOf_26 : decode cX3_noticesOf 26 = .ok (.iconst 3, 1) := by decide +kernel
theorem dX3_noticesOf_27 : decode cX3_noticesOf 27 = .ok (.goto 4, 3) := by decide +kernel
theorem dX3_noticesOf_30 : decode cX3_noticesOf 30 = .ok (.iload_n 2, 1) := by decide +kernel
theorem dX3_noticesOf_31 : decode cX3_noticesOf 31 = .ok (.ireturn, 1) := by decide +kernel
theorem dX3_binds_0 : decode cX3_binds 0 = .ok (.iconst (-1), 1) := by decide +kernel
theorem dX3_binds_1 : decode cX3_binds 1 = .ok (.istore_n 2, 1) := by decide +kernel
theorem dX3_binds_2 : decode cX3_binds 2 = .ok (.iconst 0, 1) := by decide +kernel
theorem dX3_binds_3 : decode cX3_binds 3 = .ok (.istore_n 3, 1) := by decide +kernel
theorem dX3_binds_4 : decode cX3_binds 4 = .ok (.iload_n 3, 1) := by decide +kernel
theorem dX3_binds_5 : decode cX3_binds 5 = .ok (.aload_n 0, 1) := by decide +kernel
theorem dX3_binds_6 : decode cX3_binds 6 = .ok (.getfield 84, 3) := by decide +kernel
theorem dX3_binds_9 : decode cX3_binds 9 = .ok (.if_icmp .ge 66, 3) := by decide +kernel
theorem dX3_binds_12 : decode cX3_binds 12 = .ok (.aload_n 0, 1) := by decide +kernel
theorem dX3_binds_13 : decode cX3_binds 13 = .ok (.getfield 62, 3) := by decide +kernel
theorem dX3_binds_16 : decode cX3_binds 16 = .ok (.iload_n 3, 1) := by decide +kernel
theorem dX3_binds_17 : decode cX3_binds 17 = .ok (.baload, 1) := by decide +kernel
theorem dX3_binds_18 : decode cX3_binds 18 = .ok (.ifCond .eq 17, 3) := by decide +kernel
theorem dX3_binds_21 : decode cX3_binds 21 = .ok (.aload_n 0, 1) := by decide +kernel
theorem dX3_binds_22 : decode cX3_binds 22 = .ok (.getfield 50, 3) := by decide +kernel
theorem dX3_binds_25 : decode cX3_binds 25 = .ok (.iload_n 3, 1) := by decide +kernel
theorem dX3_binds_26 : decode cX3_binds 26 = .ok (.iaload, 1) := by decide +kernel
theorem dX3_binds_27 : decode cX3_binds 27 = .ok (.iload_n 1, 1) := by decide +kernel
theorem dX3_binds_28 : decode cX3_binds 28 = .ok (.if_icmp .ne 7, 3) := by decide +kernel
theorem dX3_binds_31 : decode cX3_binds 31 = .ok (.iconst 1, 1) := by decide +kernel
theorem dX3_binds_32 : decode cX3_binds 32 = .ok (.goto 4, 3) := by decide +kernel
theorem dX3_binds_35 : decode cX3_binds 35 = .ok (.iconst 0, 1) := by decide +kernel
theorem dX3_binds_36 : decode cX3_binds 36 = .ok (.istore 4, 2) := by decide +kernel
theorem dX3_binds_38 : decode cX3_binds 38 = .ok (.iload 4, 2) := by decide +kernel
theorem dX3_binds_40 : decode cX3_binds 40 = .ok (.ifCond .eq 27, 3) := by decide +kernel
theorem dX3_binds_43 : decode cX3_binds 43 = .ok (.iload_n 2, 1) := by decide +kernel
theorem dX3_binds_44 : decode cX3_binds 44 = .ok (.iconst (-1), 1) := by decide +kernel
theorem dX3_binds_45 : decode cX3_binds 45 = .ok (.if_icmp .eq 18, 3) := by decide +kernel
theorem dX3_binds_48 : decode cX3_binds 48 = .ok (.aload_n 0, 1) := by decide +kernel
theorem dX3_binds_49 : decode cX3_binds 49 = .ok (.getfield 53, 3) := by decide +kernel
theorem dX3_binds_52 : decode cX3_binds 52 = .ok (.iload_n 3, 1) := by decide +kernel
theorem dX3_binds_53 : decode cX3_binds 53 = .ok (.iaload, 1) := by decide +kernel
theorem dX3_binds_54 : decode cX3_binds 54 = .ok (.aload_n 0, 1) := by decide +kernel
theorem dX3_binds_55 : decode cX3_binds 55 = .ok (.getfield 53, 3) := by decide +kernel
theorem dX3_binds_58 : decode cX3_binds 58 = .ok (.iload_n 2, 1) := by decide +kernel
theorem dX3_binds_59 : decode cX3_binds 59 = .ok (.iaload, 1) := by decide +kernel
theorem dX3_binds_60 : decode cX3_binds 60 = .ok (.if_icmp .lt 7, 3) := by decide +kernel
theorem dX3_binds_63 : decode cX3_binds 63 = .ok (.iload_n 3, 1) := by decide +kernel
theorem dX3_binds_64 : decode cX3_binds 64 = .ok (.goto 4, 3) := by decide +kernel
theorem dX3_binds_67 : decode cX3_binds 67 = .ok (.iload_n 2, 1) := by decide +kernel
theorem dX3_binds_68 : decode cX3_binds 68 = .ok (.istore_n 2, 1) := by decide +kernel
theorem dX3_binds_69 : decode cX3_binds 69 = .ok (.iinc 3 1, 3) := by decide +kernel
theorem dX3_binds_72 : decode cX3_binds 72 = .ok (.goto (-68), 3) := by decide +kernel
theorem dX3_binds_75 : decode cX3_binds 75 = .ok (.iload_n 2, 1) := by decide +kernel
theorem dX3_binds_76 : decode cX3_binds 76 = .ok (.ireturn, 1) := by decide +kernel
theorem dX3_isHeir_0 : decode cX3_isHeir 0 = .ok (.aload_n 0, 1) := by decide +kernel
theorem dX3_isHeir_1 : decode cX3_isHeir 1 = .ok (.getfield 13, 3) := by decide +kernel
theorem dX3_isHeir_4 : decode cX3_isHeir 4 = .ok (.iload_n 2, 1) := by decide +kernel
theorem dX3_isHeir_5 : decode cX3_isHeir 5 = .ok (.iaload, 1) := by decide +kernel
theorem dX3_isHeir_6 : decode cX3_isHeir 6 = .ok (.iload_n 1, 1) := by decide +kernel
theorem dX3_isHeir_7 : decode cX3_isHeir 7 = .ok (.ishr, 1) := by decide +kernel
theorem dX3_isHeir_8 : decode cX3_isHeir 8 = .ok (.iconst 1, 1) := by decide +kernel
theorem dX3_isHeir_9 : decode cX3_isHeir 9 = .ok (.iand, 1) := by decide +kernel
theorem dX3_isHeir_10 : decode cX3_isHeir 10 = .ok (.iconst 1, 1) := by decide +kernel
theorem dX3_isHeir_11 : decode cX3_isHeir 11 = .ok (.if_icmp .ne 7, 3) := by decide +kernel
theorem dX3_isHeir_14 : decode cX3_isHeir 14 = .ok (.iconst 1, 1) := by decide +kernel
theorem dX3_isHeir_15 : decode cX3_isHeir 15 = .ok (.goto 4, 3) := by decide +kernel
theorem dX3_isHeir_18 : decode cX3_isHeir 18 = .ok (.iconst 0, 1) := by decide +kernel
theorem dX3_isHeir_19 : decode cX3_isHeir 19 = .ok (.ireturn, 1) := by decide +kernel
set_option maxRecDepth 20000 in
theorem ggX3_isOrdered_X3_isHeir : GoodIn wsX3_isOrdered wsX3_isHeir := goodIn_r _ [10, 11, 12, 13, 14, 15, 16, 17, 18, 19, 20, 21, 22, 23, 24, 25, 26, 27, 28, 29, 30, 31, 32] (by decide +kernel) (by decide +kernel)
set_option maxRecDepth 20000 in
theorem gX3_isOrdered_X3_isHeir : GoodIn wsX3_isOrdered (wsV RX3 87 RX3 yX3_isHeir wsX3_isHeir) := goodIn_app (goodIn_of _ (by decide +kernel)) ggX3_isOrdered_X3_isHeir
theorem dX3_isOrdered_0 : decode cX3_isOrdered 0 = .ok (.aload_n 0, 1) := by decide +kernel
theorem dX3_isOrdered_1 : decode cX3_isOrdered 1 = .ok (.getfield 23, 3) := by decide +kernel
theorem dX3_isOrdered_4 : decode cX3_isOrdered 4 = .ok (.aload_n 0, 1) := by decide +kernel
theorem dX3_isOrdered_5 : decode cX3_isOrdered 5 = .ok (.getfield 50, 3) := by decide +kernel
theorem dX3_isOrdered_8 : decode cX3_isOrdered 8 = .ok (.iload_n 1, 1) := by decide +kernel
theorem dX3_isOrdered_9 : decode cX3_isOrdered 9 = .ok (.iaload, 1) := by decide +kernel
theorem dX3_isOrdered_10 : decode cX3_isOrdered 10 = .ok (.iaload, 1) := by decide +kernel
theorem dX3_isOrdered_11 : decode cX3_isOrdered 11 = .ok (.istore_n 3, 1) := by decide +kernel
theorem dX3_isOrdered_12 : decode cX3_isOrdered 12 = .ok (.aload_n 0, 1) := by decide +kernel
theorem dX3_isOrdered_13 : decode cX3_isOrdered 13 = .ok (.getfield 56, 3) := by decide +kernel
theorem dX3_isOrdered_16 : decode cX3_isOrdered 16 = .ok (.iload_n 1, 1) := by decide +kernel
theorem dX3_isOrdered_17 : decode cX3_isOrdered 17 = .ok (.iaload, 1) := by decide +kernel
theorem dX3_isOrdered_18 : decode cX3_isOrdered 18 = .ok (.iconst 1, 1) := by decide +kernel
theorem dX3_isOrdered_19 : decode cX3_isOrdered 19 = .ok (.if_icmp .ne 21, 3) := by decide +kernel
theorem dX3_isOrdered_22 : decode cX3_isOrdered 22 = .ok (.aload_n 0, 1) := by decide +kernel
theorem dX3_isOrdered_23 : decode cX3_isOrdered 23 = .ok (.getfield 59, 3) := by decide +kernel
theorem dX3_isOrdered_26 : decode cX3_isOrdered 26 = .ok (.iload_n 1, 1) := by decide +kernel
theorem dX3_isOrdered_27 : decode cX3_isOrdered 27 = .ok (.iaload, 1) := by decide +kernel
theorem dX3_isOrdered_28 : decode cX3_isOrdered 28 = .ok (.iload_n 2, 1) := by decide +kernel
theorem dX3_isOrdered_29 : decode cX3_isOrdered 29 = .ok (.if_icmp .ne 7, 3) := by decide +kernel
theorem dX3_isOrdered_32 : decode cX3_isOrdered 32 = .ok (.iconst 1, 1) := by decide +kernel
theorem dX3_isOrdered_33 : decode cX3_isOrdered 33 = .ok (.goto 40, 3) := by decide +kernel
theorem dX3_isOrdered_36 : decode cX3_isOrdered 36 = .ok (.iconst 0, 1) := by decide +kernel
theorem dX3_isOrdered_37 : decode cX3_isOrdered 37 = .ok (.goto 36, 3) := by decide +kernel
theorem dX3_isOrdered_40 : decode cX3_isOrdered 40 = .ok (.aload_n 0, 1) := by decide +kernel
theorem dX3_isOrdered_41 : decode cX3_isOrdered 41 = .ok (.getfield 56, 3) := by decide +kernel
theorem dX3_isOrdered_44 : decode cX3_isOrdered 44 = .ok (.iload_n 1, 1) := by decide +kernel
theorem dX3_isOrdered_45 : decode cX3_isOrdered 45 = .ok (.iaload, 1) := by decide +kernel
theorem dX3_isOrdered_46 : decode cX3_isOrdered 46 = .ok (.iconst 2, 1) := by decide +kernel
theorem dX3_isOrdered_47 : decode cX3_isOrdered 47 = .ok (.if_icmp .ne 25, 3) := by decide +kernel
theorem dX3_isOrdered_50 : decode cX3_isOrdered 50 = .ok (.aload_n 0, 1) := by decide +kernel
theorem dX3_isOrdered_51 : decode cX3_isOrdered 51 = .ok (.getfield 7, 3) := by decide +kernel
theorem dX3_isOrdered_54 : decode cX3_isOrdered 54 = .ok (.iload_n 3, 1) := by decide +kernel
theorem dX3_isOrdered_55 : decode cX3_isOrdered 55 = .ok (.baload, 1) := by decide +kernel
theorem dX3_isOrdered_56 : decode cX3_isOrdered 56 = .ok (.ifCond .eq 16, 3) := by decide +kernel
theorem dX3_isOrdered_59 : decode cX3_isOrdered 59 = .ok (.aload_n 0, 1) := by decide +kernel
theorem dX3_isOrdered_60 : decode cX3_isOrdered 60 = .ok (.iload_n 2, 1) := by decide +kernel
theorem dX3_isOrdered_61 : decode cX3_isOrdered 61 = .ok (.iload_n 3, 1) := by decide +kernel
theorem dX3_isOrdered_62 : decode cX3_isOrdered 62 = .ok (.invokevirtual 87, 3) := by decide +kernel
theorem dX3_isOrdered_65 : decode cX3_isOrdered 65 = .ok (.ifCond .eq 7, 3) := by decide +kernel
theorem dX3_isOrdered_68 : decode cX3_isOrdered 68 = .ok (.iconst 1, 1) := by decide +kernel
theorem dX3_isOrdered_69 : decode cX3_isOrdered 69 = .ok (.goto 4, 3) := by decide +kernel
theorem dX3_isOrdered_72 : decode cX3_isOrdered 72 = .ok (.iconst 0, 1) := by decide +kernel
theorem dX3_isOrdered_73 : decode cX3_isOrdered 73 = .ok (.ireturn, 1) := by decide +kernel
set_option maxRecDepth 20000 in
theorem ggX3_isProxy_X3_in : GoodIn wsX3_isProxy wsX3_in := goodIn_r _ [9] (by decide +kernel) (by decide +kernel)
set_option maxRecDepth 20000 in
theorem gX3_isProxy_X3_in : GoodIn wsX3_isProxy (va_wsS RX3 69 yX3_in wsX3_in) := goodIn_app (goodIn_of _ (by decide +kernel)) ggX3_isProxy_X3_in
theorem dX3_isProxy_0 : decode cX3_isProxy 0 = .ok (.iconst 0, 1) := by decide +kernel
theorem dX3_isProxy_1 : decode cX3_isProxy 1 = .ok (.istore_n 3, 1) := by decide +kernel
theorem dX3_isProxy_2 : decode cX3_isProxy 2 = .ok (.iconst 5, 1) := by decide +kernel
theorem dX3_isProxy_3 : decode cX3_isProxy 3 = .ok (.iload_n 1, 1) := by decide +kernel
theorem dX3_isProxy_4 : decode cX3_isProxy 4 = .ok (.imul, 1) := by decide +kernel
theorem dX3_isProxy_5 : decode cX3_isProxy 5 = .ok (.istore 4, 2) := by decide +kernel
theorem dX3_isProxy_7 : decode cX3_isProxy 7 = .ok (.iload 4, 2) := by decide +kernel
theorem dX3_isProxy_9 : decode cX3_isProxy 9 = .ok (.iconst 5, 1) := by decide +kernel
theorem dX3_isProxy_10 : decode cX3_isProxy 10 = .ok (.iload_n 1, 1) := by decide +kernel
theorem dX3_isProxy_11 : decode cX3_isProxy 11 = .ok (.imul, 1) := by decide +kernel
theorem dX3_isProxy_12 : decode cX3_isProxy 12 = .ok (.aload_n 0, 1) := by decide +kernel
theorem dX3_isProxy_13 : decode cX3_isProxy 13 = .ok (.getfield 38, 3) := by decide +kernel
theorem dX3_isProxy_16 : decode cX3_isProxy 16 = .ok (.iload_n 1, 1) := by decide +kernel
theorem dX3_isProxy_17 : decode cX3_isProxy 17 = .ok (.iaload, 1) := by decide +kernel
theorem dX3_isProxy_18 : decode cX3_isProxy 18 = .ok (.iadd, 1) := by decide +kernel
theorem dX3_isProxy_19 : decode cX3_isProxy 19 = .ok (.if_icmp .ge 54, 3) := by decide +kernel
theorem dX3_isProxy_22 : decode cX3_isProxy 22 = .ok (.iload_n 3, 1) := by decide +kernel
theorem dX3_isProxy_23 : decode cX3_isProxy 23 = .ok (.ifCond .ne 38, 3) := by decide +kernel
theorem dX3_isProxy_26 : decode cX3_isProxy 26 = .ok (.aload_n 0, 1) := by decide +kernel
theorem dX3_isProxy_27 : decode cX3_isProxy 27 = .ok (.getfield 41, 3) := by decide +kernel
theorem dX3_isProxy_30 : decode cX3_isProxy 30 = .ok (.iload 4, 2) := by decide +kernel
theorem dX3_isProxy_32 : decode cX3_isProxy 32 = .ok (.iaload, 1) := by decide +kernel
theorem dX3_isProxy_33 : decode cX3_isProxy 33 = .ok (.iload_n 2, 1) := by decide +kernel
theorem dX3_isProxy_34 : decode cX3_isProxy 34 = .ok (.if_icmp .ne 31, 3) := by decide +kernel
theorem dX3_isProxy_37 : decode cX3_isProxy 37 = .ok (.aload_n 0, 1) := by decide +kernel
theorem dX3_isProxy_38 : decode cX3_isProxy 38 = .ok (.getfield 73, 3) := by decide +kernel
theorem dX3_isProxy_41 : decode cX3_isProxy 41 = .ok (.aload_n 0, 1) := by decide +kernel
theorem dX3_isProxy_42 : decode cX3_isProxy 42 = .ok (.getfield 44, 3) := by decide +kernel
theorem dX3_isProxy_45 : decode cX3_isProxy 45 = .ok (.iload 4, 2) := by decide +kernel
theorem dX3_isProxy_47 : decode cX3_isProxy 47 = .ok (.iaload, 1) := by decide +kernel
theorem dX3_isProxy_48 : decode cX3_isProxy 48 = .ok (.aload_n 0, 1) := by decide +kernel
theorem dX3_isProxy_49 : decode cX3_isProxy 49 = .ok (.getfield 47, 3) := by decide +kernel
theorem dX3_isProxy_52 : decode cX3_isProxy 52 = .ok (.iload 4, 2) := by decide +kernel
theorem dX3_isProxy_54 : decode cX3_isProxy 54 = .ok (.iaload, 1) := by decide +kernel
theorem dX3_isProxy_55 : decode cX3_isProxy 55 = .ok (.invokestatic 69, 3) := by decide +kernel
theorem dX3_isProxy_58 : decode cX3_isProxy 58 = .ok (.ifCond .eq 7, 3) := by decide +kernel
theorem dX3_isProxy_61 : decode cX3_isProxy 61 = .ok (.iconst 1, 1) := by decide +kernel
theorem dX3_isProxy_62 : decode cX3_isProxy 62 = .ok (.goto 4, 3) := by decide +kernel
theorem dX3_isProxy_65 : decode cX3_isProxy 65 = .ok (.iconst 0, 1) := by decide +kernel
theorem dX3_isProxy_66 : decode cX3_isProxy 66 = .ok (.istore_n 3, 1) := by decide +kernel
theorem dX3_isProxy_67 : decode cX3_isProxy 67 = .ok (.iinc 4 1, 3) := by decide +kernel
theorem dX3_isProxy_70 : decode cX3_isProxy 70 = .ok (.goto (-63), 3) := by decide +kernel
theorem dX3_isProxy_73 : decode cX3_isProxy 73 = .ok (.iload_n 3, 1) := by decide +kernel
theorem dX3_isProxy_74 : decode cX3_isProxy 74 = .ok (.ireturn, 1) := by decide +kernel
set_option maxRecDepth 20000 in
theorem ggX3_right_X3_isRented : GoodIn wsX3_right wsX3_isRented := goodIn_r _ [8, 9, 50, 51, 52, 53, 54, 55, 56, 57, 58, 59, 60, 61, 62, 63, 64, 65, 66, 67, 68, 69, 70] (by decide +kernel) (by decide +kernel)
set_option maxRecDepth 20000 in
theorem gX3_right_X3_isRented : GoodIn wsX3_right (wsV RX3 80 RX3 yX3_isRented wsX3_isRented) := goodIn_app (goodIn_of _ (by decide +kernel)) ggX3_right_X3_isRented
set_option maxRecDepth 20000 in
theorem ggX3_right_X3_binds : GoodIn wsX3_right wsX3_binds := goodIn_r _ [13, 14, 15, 16, 17, 50, 51, 52, 53, 54, 55, 56, 57, 58, 59, 60, 61, 62, 63, 64, 65, 66, 67, 68, 69, 70] (by decide +kernel) (by decide +kernel)
set_option maxRecDepth 20000 in
theorem gX3_right_X3_binds : GoodIn wsX3_right (wsV RX3 91 RX3 yX3_binds wsX3_binds) := goodIn_app (goodIn_of _ (by decide +kernel)) ggX3_right_X3_binds
set_option maxRecDepth 20000 in
theorem ggX3_right_X3_isOrdered : GoodIn wsX3_right wsX3_isOrdered := goodIn_r _ [21, 2, 16, 22, 23, 1, 24, 25, 26, 7, 27, 28, 50, 51, 52, 53, 54, 55, 56, 57, 58, 59, 60, 61, 62, 63, 64, 65, 66, 67, 68, 69, 70] (by decide +kernel) (by decide +kernel)
set_option maxRecDepth 20000 in
theorem gX3_right_X3_isOrdered : GoodIn wsX3_right (wsV RX3 94 RX3 yX3_isOrdered wsX3_isOrdered) := goodIn_app (goodIn_of _ (by decide +kernel)) ggX3_right_X3_isOrdered
set_option maxRecDepth 20000 in
theorem ggX3_right_X3_isHeir : GoodIn wsX3_right wsX3_isHeir := goodIn_r _ [27, 28, 50, 51, 52, 53, 54, 55, 56, 57, 58, 59, 60, 61, 62, 63, 64, 65, 66, 67, 68, 69, 70] (by decide +kernel) (by decide +kernel)
set_option maxRecDepth 20000 in
theorem gX3_right_X3_isHeir : GoodIn wsX3_right (wsV RX3 87 RX3 yX3_isHeir wsX3_isHeir) := goodIn_app (goodIn_of _ (by decide +kernel)) ggX3_right_X3_isHeir
set_option maxRecDepth 20000 in
theorem ggX3_right_X3_noticesOf : GoodIn wsX3_right wsX3_noticesOf := goodIn_r _ [32, 33, 34, 35, 7, 36, 37, 38, 4, 5, 6, 8, 9, 50, 51, 52, 53, 54, 55, 56, 57, 58, 59, 60, 61, 62, 63, 64, 65, 66, 67, 68, 69, 70] (by decide +kernel) (by decide +kernel)
set_option maxRecDepth 20000 in
theorem gX3_right_X3_noticesOf : GoodIn wsX3_right (wsV RX3 97 RX3 yX3_noticesOf wsX3_noticesOf) := goodIn_app (goodIn_of _ (by decide +kernel)) ggX3_right_X3_noticesOf
set_option maxRecDepth 20000 in
theorem ggX3_right_X3_isProxy : GoodIn wsX3_right wsX3_isProxy := goodIn_r _ [42, 43, 44, 37, 45, 46, 47, 48, 7, 49, 50, 51, 52, 53, 54, 55, 56, 57, 58, 59, 60, 61, 62, 63, 64, 65, 66, 67, 68, 69, 70] (by decide +kernel) (by decide +kernel)
set_option maxRecDepth 20000 in
theorem gX3_right_X3_isProxy : GoodIn wsX3_right (wsV RX3 100 RX3 yX3_isProxy wsX3_isProxy) := goodIn_app (goodIn_of _ (by decide +kernel)) ggX3_right_X3_isProxy
theorem dX3_right_0 : decode cX3_right 0 = .ok (.aload_n 0, 1) := by decide +kernel
theorem dX3_right_1 : decode cX3_right 1 = .ok (.iload_n 1, 1) := by decide +kernel
theorem dX3_right_2 : decode cX3_right 2 = .ok (.invokevirtual 80, 3) := by decide +kernel
theorem dX3_right_5 : decode cX3_right 5 = .ok (.ifCond .eq 12, 3) := by decide +kernel
theorem dX3_right_8 : decode cX3_right 8 = .ok (.aload_n 0, 1) := by decide +kernel
theorem dX3_right_9 : decode cX3_right 9 = .ok (.getfield 7, 3) := by decide +kernel
theorem dX3_right_12 : decode cX3_right 12 = .ok (.iload_n 2, 1) := by decide +kernel
theorem dX3_right_13 : decode cX3_right 13 = .ok (.baload, 1) := by decide +kernel
theorem dX3_right_14 : decode cX3_right 14 = .ok (.ifCond .eq 5, 3) := by decide +kernel
theorem dX3_right_17 : decode cX3_right 17 = .ok (.iconst 3, 1) := by decide +kernel
theorem dX3_right_18 : decode cX3_right 18 = .ok (.ireturn, 1) := by decide +kernel
theorem dX3_right_19 : decode cX3_right 19 = .ok (.aload_n 0, 1) := by decide +kernel
theorem dX3_right_20 : decode cX3_right 20 = .ok (.iload_n 1, 1) := by decide +kernel
theorem dX3_right_21 : decode cX3_right 21 = .ok (.invokevirtual 91, 3) := by decide +kernel
theorem dX3_right_24 : decode cX3_right 24 = .ok (.istore_n 3, 1) := by decide +kernel
theorem dX3_right_25 : decode cX3_right 25 = .ok (.iload_n 3, 1) := by decide +kernel
theorem dX3_right_26 : decode cX3_right 26 = .ok (.iconst (-1), 1) := by decide +kernel
theorem dX3_right_27 : decode cX3_right 27 = .ok (.if_icmp .eq 18, 3) := by decide +kernel
theorem dX3_right_30 : decode cX3_right 30 = .ok (.aload_n 0, 1) := by decide +kernel
theorem dX3_right_31 : decode cX3_right 31 = .ok (.iload_n 3, 1) := by decide +kernel
theorem dX3_right_32 : decode cX3_right 32 = .ok (.iload_n 2, 1) := by decide +kernel
theorem dX3_right_33 : decode cX3_right 33 = .ok (.invokevirtual 94, 3) := by decide +kernel
theorem dX3_right_36 : decode cX3_right 36 = .ok (.ifCond .eq 7, 3) := by decide +kernel
theorem dX3_right_39 : decode cX3_right 39 = .ok (.iconst 0, 1) := by decide +kernel
theorem dX3_right_40 : decode cX3_right 40 = .ok (.goto 4, 3) := by decide +kernel
theorem dX3_right_43 : decode cX3_right 43 = .ok (.iconst 3, 1) := by decide +kernel
theorem dX3_right_44 : decode cX3_right 44 = .ok (.ireturn, 1) := by decide +kernel
theorem dX3_right_45 : decode cX3_right 45 = .ok (.aload_n 0, 1) := by decide +kernel
theorem dX3_right_46 : decode cX3_right 46 = .ok (.getfield 7, 3) := by decide +kernel
theorem dX3_right_49 : decode cX3_right 49 = .ok (.aload_n 0, 1) := by decide +kernel
theorem dX3_right_50 : decode cX3_right 50 = .ok (.getfield 23, 3) := by decide +kernel
theorem dX3_right_53 : decode cX3_right 53 = .ok (.iload_n 1, 1) := by decide +kernel
theorem dX3_right_54 : decode cX3_right 54 = .ok (.iaload, 1) := by decide +kernel
theorem dX3_right_55 : decode cX3_right 55 = .ok (.baload, 1) := by decide +kernel
theorem dX3_right_56 : decode cX3_right 56 = .ok (.ifCond .eq 32, 3) := by decide +kernel
theorem dX3_right_59 : decode cX3_right 59 = .ok (.aload_n 0, 1) := by decide +kernel
theorem dX3_right_60 : decode cX3_right 60 = .ok (.iload_n 2, 1) := by decide +kernel
theorem dX3_right_61 : decode cX3_right 61 = .ok (.aload_n 0, 1) := by decide +kernel
theorem dX3_right_62 : decode cX3_right 62 = .ok (.getfield 23, 3) := by decide +kernel
theorem dX3_right_65 : decode cX3_right 65 = .ok (.iload_n 1, 1) := by decide +kernel
theorem dX3_right_66 : decode cX3_right 66 = .ok (.iaload, 1) := by decide +kernel
theorem dX3_right_67 : decode cX3_right 67 = .ok (.invokevirtual 87, 3) := by decide +kernel
theorem dX3_right_70 : decode cX3_right 70 = .ok (.ifCond .eq 16, 3) := by decide +kernel
theorem dX3_right_73 : decode cX3_right 73 = .ok (.aload_n 0, 1) := by decide +kernel
theorem dX3_right_74 : decode cX3_right 74 = .ok (.getfield 32, 3) := by decide +kernel
theorem dX3_right_77 : decode cX3_right 77 = .ok (.iload_n 1, 1) := by decide +kernel
theorem dX3_right_78 : decode cX3_right 78 = .ok (.baload, 1) := by decide +kernel
theorem dX3_right_79 : decode cX3_right 79 = .ok (.ifCond .ne 7, 3) := by decide +kernel
theorem dX3_right_82 : decode cX3_right 82 = .ok (.iconst 1, 1) := by decide +kernel
theorem dX3_right_83 : decode cX3_right 83 = .ok (.goto 4, 3) := by decide +kernel
theorem dX3_right_86 : decode cX3_right 86 = .ok (.iconst 3, 1) := by decide +kernel
theorem dX3_right_87 : decode cX3_right 87 = .ok (.ireturn, 1) := by decide +kernel
theorem dX3_right_88 : decode cX3_right 88 = .ok (.aload_n 0, 1) := by decide +kernel
theorem dX3_right_89 : decode cX3_right 89 = .ok (.iload_n 1, 1) := by decide +kernel
theorem dX3_right_90 : decode cX3_right 90 = .ok (.invokevirtual 97, 3) := by decide +kernel
theorem dX3_right_93 : decode cX3_right 93 = .ok (.ifCond .ne 26, 3) := by decide +kernel
theorem dX3_right_96 : decode cX3_right 96 = .ok (.iload_n 2, 1) := by decide +kernel
theorem dX3_right_97 : decode cX3_right 97 = .ok (.aload_n 0, 1) := by decide +kernel
theorem dX3_right_98 : decode cX3_right 98 = .ok (.getfield 23, 3) := by decide +kernel
theorem dX3_right_101 : decode cX3_right 101 = .ok (.iload_n 1, 1) := by decide +kernel
theorem dX3_right_102 : decode cX3_right 102 = .ok (.iaload, 1) := by decide +kernel
theorem dX3_right_103 : decode cX3_right 103 = .ok (.if_icmp .eq 12, 3) := by decide +kernel
theorem dX3_right_106 : decode cX3_right 106 = .ok (.aload_n 0, 1) := by decide +kernel
theorem dX3_right_107 : decode cX3_right 107 = .ok (.iload_n 1, 1) := by decide +kernel
theorem dX3_right_108 : decode cX3_right 108 = .ok (.iload_n 2, 1) := by decide +kernel
theorem dX3_right_109 : decode cX3_right 109 = .ok (.invokevirtual 100, 3) := by decide +kernel
theorem dX3_right_112 : decode cX3_right 112 = .ok (.ifCond .eq 7, 3) := by decide +kernel
theorem dX3_right_115 : decode cX3_right 115 = .ok (.iconst 0, 1) := by decide +kernel
theorem dX3_right_116 : decode cX3_right 116 = .ok (.goto 4, 3) := by decide +kernel
theorem dX3_right_119 : decode cX3_right 119 = .ok (.iconst 3, 1) := by decide +kernel
theorem dX3_right_120 : decode cX3_right 120 = .ok (.ireturn, 1) := by decide +kernel
theorem dX3_frees_0 : decode cX3_frees 0 = .ok (.aload_n 0, 1) := by decide +kernel
theorem dX3_frees_1 : decode cX3_frees 1 = .ok (.getfield 20, 3) := by decide +kernel
theorem dX3_frees_4 : decode cX3_frees 4 = .ok (.iload_n 1, 1) := by decide +kernel
theorem dX3_frees_5 : decode cX3_frees 5 = .ok (.iconst 0, 1) := by decide +kernel
theorem dX3_frees_6 : decode cX3_frees 6 = .ok (.iastore, 1) := by decide +kernel
theorem dX3_frees_7 : decode cX3_frees 7 = .ok (.aload_n 0, 1) := by decide +kernel
theorem dX3_frees_8 : decode cX3_frees 8 = .ok (.getfield 38, 3) := by decide +kernel
theorem dX3_frees_11 : decode cX3_frees 11 = .ok (.iload_n 1, 1) := by decide +kernel
theorem dX3_frees_12 : decode cX3_frees 12 = .ok (.iconst 0, 1) := by decide +kernel
theorem dX3_frees_13 : decode cX3_frees 13 = .ok (.iastore, 1) := by decide +kernel
theorem dX3_frees_14 : decode cX3_frees 14 = .ok (.iconst 0, 1) := by decide +kernel
theorem dX3_frees_15 : decode cX3_frees 15 = .ok (.istore_n 2, 1) := by decide +kernel
theorem dX3_frees_16 : decode cX3_frees 16 = .ok (.iload_n 2, 1) := by decide +kernel
theorem dX3_frees_17 : decode cX3_frees 17 = .ok (.aload_n 0, 1) := by decide +kernel
theorem dX3_frees_18 : decode cX3_frees 18 = .ok (.getfield 84, 3) := by decide +kernel
theorem dX3_frees_21 : decode cX3_frees 21 = .ok (.if_icmp .ge 39, 3) := by decide +kernel
theorem dX3_frees_24 : decode cX3_frees 24 = .ok (.aload_n 0, 1) := by decide +kernel
theorem dX3_frees_25 : decode cX3_frees 25 = .ok (.getfield 62, 3) := by decide +kernel
theorem dX3_frees_28 : decode cX3_frees 28 = .ok (.iload_n 2, 1) := by decide +kernel
theorem dX3_frees_29 : decode cX3_frees 29 = .ok (.aload_n 0, 1) := by decide +kernel
theorem dX3_frees_30 : decode cX3_frees 30 = .ok (.getfield 62, 3) := by decide +kernel
theorem dX3_frees_33 : decode cX3_frees 33 = .ok (.iload_n 2, 1) := by decide +kernel
theorem dX3_frees_34 : decode cX3_frees 34 = .ok (.baload, 1) := by decide +kernel
theorem dX3_frees_35 : decode cX3_frees 35 = .ok (.ifCond .eq 17, 3) := by decide +kernel
theorem dX3_frees_38 : decode cX3_frees 38 = .ok (.aload_n 0, 1) := by decide +kernel
theorem dX3_frees_39 : decode cX3_frees 39 = .ok (.getfield 50, 3) := by decide +kernel
theorem dX3_frees_42 : decode cX3_frees 42 = .ok (.iload_n 2, 1) := by decide +kernel
theorem dX3_frees_43 : decode cX3_frees 43 = .ok (.iaload, 1) := by decide +kernel
theorem dX3_frees_44 : decode cX3_frees 44 = .ok (.iload_n 1, 1) := by decide +kernel
theorem dX3_frees_45 : decode cX3_frees 45 = .ok (.if_icmp .eq 7, 3) := by decide +kernel
theorem dX3_frees_48 : decode cX3_frees 48 = .ok (.iconst 1, 1) := by decide +kernel
theorem dX3_frees_49 : decode cX3_frees 49 = .ok (.goto 4, 3) := by decide +kernel
theorem dX3_frees_52 : decode cX3_frees 52 = .ok (.iconst 0, 1) := by decide +kernel
theorem dX3_frees_53 : decode cX3_frees 53 = .ok (.bastore, 1) := by decide +kernel
theorem dX3_frees_54 : decode cX3_frees 54 = .ok (.iinc 2 1, 3) := by decide +kernel
theorem dX3_frees_57 : decode cX3_frees 57 = .ok (.goto (-41), 3) := by decide +kernel
theorem dX3_frees_60 : decode cX3_frees 60 = .ok (.return_, 1) := by decide +kernel
set_option maxRecDepth 20000 in
theorem ggX3_pass_X3_in : GoodIn wsX3_pass wsX3_in := goodIn_r _ [7] (by decide +kernel) (by decide +kernel)
set_option maxRecDepth 20000 in
theorem gX3_pass_X3_in : GoodIn wsX3_pass (va_wsS RX3 69 yX3_in wsX3_in) := goodIn_app (goodIn_of _ (by decide +kernel)) ggX3_pass_X3_in
set_option maxRecDepth 20000 in
theorem ggX3_pass_X3_fails : GoodIn wsX3_pass wsX3_fails := goodIn_r _ [11, 1, 12, 13, 14, 15, 16, 17, 18, 19, 20, 21, 22, 23, 24, 25, 26, 27, 28, 29, 30, 31, 32] (by decide +kernel) (by decide +kernel)
set_option maxRecDepth 20000 in
theorem gX3_pass_X3_fails : GoodIn wsX3_pass (wsV RX3 103 RX3 yX3_fails wsX3_fails) := goodIn_app (goodIn_of _ (by decide +kernel)) ggX3_pass_X3_fails
theorem dX3_pass_0 : decode cX3_pass 0 = .ok (.aload_n 0, 1) := by decide +kernel
theorem dX3_pass_1 : decode cX3_pass 1 = .ok (.iconst 0, 1) := by decide +kernel
theorem dX3_pass_2 : decode cX3_pass 2 = .ok (.putfield 65, 3) := by decide +kernel
theorem dX3_pass_5 : decode cX3_pass 5 = .ok (.iload_n 1, 1) := by decide +kernel
theorem dX3_pass_6 : decode cX3_pass 6 = .ok (.iconst 1, 1) := by decide +kernel
theorem dX3_pass_7 : decode cX3_pass 7 = .ok (.sipush 1000, 3) := by decide +kernel
theorem dX3_pass_10 : decode cX3_pass 10 = .ok (.invokestatic 69, 3) := by decide +kernel
theorem dX3_pass_13 : decode cX3_pass 13 = .ok (.ifCond .ne 9, 3) := by decide +kernel
theorem dX3_pass_16 : decode cX3_pass 16 = .ok (.aload_n 0, 1) := by decide +kernel
theorem dX3_pass_17 : decode cX3_pass 17 = .ok (.iconst 1, 1) := by decide +kernel
theorem dX3_pass_18 : decode cX3_pass 18 = .ok (.invokevirtual 103, 3) := by decide +kernel
theorem dX3_pass_21 : decode cX3_pass 21 = .ok (.ireturn, 1) := by decide +kernel
theorem dX3_pass_22 : decode cX3_pass 22 = .ok (.aload_n 0, 1) := by decide +kernel
theorem dX3_pass_23 : decode cX3_pass 23 = .ok (.getfield 73, 3) := by decide +kernel
theorem dX3_pass_26 : decode cX3_pass 26 = .ok (.iload_n 1, 1) := by decide +kernel
theorem dX3_pass_27 : decode cX3_pass 27 = .ok (.iadd, 1) := by decide +kernel
theorem dX3_pass_28 : decode cX3_pass 28 = .ok (.ldc 106, 2) := by decide +kernel
theorem dX3_pass_30 : decode cX3_pass 30 = .ok (.if_icmp .le 9, 3) := by decide +kernel
theorem dX3_pass_33 : decode cX3_pass 33 = .ok (.aload_n 0, 1) := by decide +kernel
theorem dX3_pass_34 : decode cX3_pass 34 = .ok (.iconst 2, 1) := by decide +kernel
theorem dX3_pass_35 : decode cX3_pass 35 = .ok (.invokevirtual 103, 3) := by decide +kernel
theorem dX3_pass_38 : decode cX3_pass 38 = .ok (.ireturn, 1) := by decide +kernel
theorem dX3_pass_39 : decode cX3_pass 39 = .ok (.aload_n 0, 1) := by decide +kernel
theorem dX3_pass_40 : decode cX3_pass 40 = .ok (.dup, 1) := by decide +kernel
theorem dX3_pass_41 : decode cX3_pass 41 = .ok (.getfield 73, 3) := by decide +kernel
theorem dX3_pass_44 : decode cX3_pass 44 = .ok (.iload_n 1, 1) := by decide +kernel
theorem dX3_pass_45 : decode cX3_pass 45 = .ok (.iadd, 1) := by decide +kernel
theorem dX3_pass_46 : decode cX3_pass 46 = .ok (.putfield 73, 3) := by decide +kernel
theorem dX3_pass_49 : decode cX3_pass 49 = .ok (.aload_n 0, 1) := by decide +kernel
theorem dX3_pass_50 : decode cX3_pass 50 = .ok (.getfield 73, 3) := by decide +kernel
theorem dX3_pass_53 : decode cX3_pass 53 = .ok (.ireturn, 1) := by decide +kernel
set_option maxRecDepth 20000 in
theorem ggX3_rent_X3_isBox : GoodIn wsX3_rent wsX3_isBox := goodIn_r _ [12, 13, 14, 11, 15] (by decide +kernel) (by decide +kernel)
set_option maxRecDepth 20000 in
theorem gX3_rent_X3_isBox : GoodIn wsX3_rent (va_wsS RX3 107 yX3_isBox wsX3_isBox) := goodIn_app (goodIn_of _ (by decide +kernel)) ggX3_rent_X3_isBox
set_option maxRecDepth 20000 in
theorem ggX3_rent_X3_isPerson : GoodIn wsX3_rent wsX3_isPerson := goodIn_r _ [18, 13, 14, 11, 15] (by decide +kernel) (by decide +kernel)
set_option maxRecDepth 20000 in
theorem gX3_rent_X3_isPerson : GoodIn wsX3_rent (va_wsS RX3 110 yX3_isPerson wsX3_isPerson) := goodIn_app (goodIn_of _ (by decide +kernel)) ggX3_rent_X3_isPerson
set_option maxRecDepth 20000 in
theorem ggX3_rent_X3_in : GoodIn wsX3_rent wsX3_in := goodIn_r _ [15] (by decide +kernel) (by decide +kernel)
set_option maxRecDepth 20000 in
theorem gX3_rent_X3_in : GoodIn wsX3_rent (va_wsS RX3 69 yX3_in wsX3_in) := goodIn_app (goodIn_of _ (by decide +kernel)) ggX3_rent_X3_in
set_option maxRecDepth 20000 in
theorem ggX3_rent_X3_fails : GoodIn wsX3_rent wsX3_fails := goodIn_r _ [22, 1, 23, 24, 25, 26, 27, 28, 29, 30, 31, 32, 33, 34, 35, 36, 37, 38, 39, 40, 41, 42, 43] (by decide +kernel) (by decide +kernel)
set_option maxRecDepth 20000 in
theorem gX3_rent_X3_fails : GoodIn wsX3_rent (wsV RX3 103 RX3 yX3_fails wsX3_fails) := goodIn_app (goodIn_of _ (by decide +kernel)) ggX3_rent_X3_fails
theorem dX3_rent_0 : decode cX3_rent 0 = .ok (.aload_n 0, 1) := by decide +kernel
theorem dX3_rent_1 : decode cX3_rent 1 = .ok (.iconst 0, 1) := by decide +kernel
theorem dX3_rent_2 : decode cX3_rent 2 = .ok (.putfield 65, 3) := by decide +kernel
theorem dX3_rent_5 : decode cX3_rent 5 = .ok (.iload_n 1, 1) := by decide +kernel
theorem dX3_rent_6 : decode cX3_rent 6 = .ok (.invokestatic 107, 3) := by decide +kernel
theorem dX3_rent_9 : decode cX3_rent 9 = .ok (.ifCond .eq 21, 3) := by decide +kernel
theorem dX3_rent_12 : decode cX3_rent 12 = .ok (.iload_n 2, 1) := by decide +kernel
theorem dX3_rent_13 : decode cX3_rent 13 = .ok (.invokestatic 110, 3) := by decide +kernel
theorem dX3_rent_16 : decode cX3_rent 16 = .ok (.ifCond .eq 14, 3) := by decide +kernel
theorem dX3_rent_19 : decode cX3_rent 19 = .ok (.iload_n 3, 1) := by decide +kernel
theorem dX3_rent_20 : decode cX3_rent 20 = .ok (.iconst 1, 1) := by decide +kernel
theorem dX3_rent_21 : decode cX3_rent 21 = .ok (.sipush 1000, 3) := by decide +kernel
theorem dX3_rent_24 : decode cX3_rent 24 = .ok (.invokestatic 69, 3) := by decide +kernel
theorem dX3_rent_27 : decode cX3_rent 27 = .ok (.ifCond .ne 9, 3) := by decide +kernel
theorem dX3_rent_30 : decode cX3_rent 30 = .ok (.aload_n 0, 1) := by decide +kernel
theorem dX3_rent_31 : decode cX3_rent 31 = .ok (.iconst 1, 1) := by decide +kernel
theorem dX3_rent_32 : decode cX3_rent 32 = .ok (.invokevirtual 103, 3) := by decide +kernel
theorem dX3_rent_35 : decode cX3_rent 35 = .ok (.ireturn, 1) := by decide +kernel
theorem dX3_rent_36 : decode cX3_rent 36 = .ok (.aload_n 0, 1) := by decide +kernel
theorem dX3_rent_37 : decode cX3_rent 37 = .ok (.getfield 20, 3) := by decide +kernel
theorem dX3_rent_40 : decode cX3_rent 40 = .ok (.iload_n 1, 1) := by decide +kernel
theorem dX3_rent_41 : decode cX3_rent 41 = .ok (.iaload, 1) := by decide +kernel
theorem dX3_rent_42 : decode cX3_rent 42 = .ok (.ifCond .ne 12, 3) := by decide +kernel
theorem dX3_rent_45 : decode cX3_rent 45 = .ok (.aload_n 0, 1) := by decide +kernel
theorem dX3_rent_46 : decode cX3_rent 46 = .ok (.getfield 7, 3) := by decide +kernel
theorem dX3_rent_49 : decode cX3_rent 49 = .ok (.iload_n 2, 1) := by decide +kernel
theorem dX3_rent_50 : decode cX3_rent 50 = .ok (.baload, 1) := by decide +kernel
theorem dX3_rent_51 : decode cX3_rent 51 = .ok (.ifCond .eq 9, 3) := by decide +kernel
theorem dX3_rent_54 : decode cX3_rent 54 = .ok (.aload_n 0, 1) := by decide +kernel
theorem dX3_rent_55 : decode cX3_rent 55 = .ok (.iconst 2, 1) := by decide +kernel
theorem dX3_rent_56 : decode cX3_rent 56 = .ok (.invokevirtual 103, 3) := by decide +kernel
theorem dX3_rent_59 : decode cX3_rent 59 = .ok (.ireturn, 1) := by decide +kernel
theorem dX3_rent_60 : decode cX3_rent 60 = .ok (.aload_n 0, 1) := by decide +kernel
theorem dX3_rent_61 : decode cX3_rent 61 = .ok (.getfield 20, 3) := by decide +kernel
theorem dX3_rent_64 : decode cX3_rent 64 = .ok (.iload_n 1, 1) := by decide +kernel
theorem dX3_rent_65 : decode cX3_rent 65 = .ok (.iconst 1, 1) := by decide +kernel
theorem dX3_rent_66 : decode cX3_rent 66 = .ok (.iastore, 1) := by decide +kernel
theorem dX3_rent_67 : decode cX3_rent 67 = .ok (.aload_n 0, 1) := by decide +kernel
theorem dX3_rent_68 : decode cX3_rent 68 = .ok (.getfield 23, 3) := by decide +kernel
theorem dX3_rent_71 : decode cX3_rent 71 = .ok (.iload_n 1, 1) := by decide +kernel
theorem dX3_rent_72 : decode cX3_rent 72 = .ok (.iload_n 2, 1) := by decide +kernel
theorem dX3_rent_73 : decode cX3_rent 73 = .ok (.iastore, 1) := by decide +kernel
theorem dX3_rent_74 : decode cX3_rent 74 = .ok (.aload_n 0, 1) := by decide +kernel
theorem dX3_rent_75 : decode cX3_rent 75 = .ok (.getfield 26, 3) := by decide +kernel
theorem dX3_rent_78 : decode cX3_rent 78 = .ok (.iload_n 1, 1) := by decide +kernel
theorem dX3_rent_79 : decode cX3_rent 79 = .ok (.aload_n 0, 1) := by decide +kernel
theorem dX3_rent_80 : decode cX3_rent 80 = .ok (.getfield 73, 3) := by decide +kernel
theorem dX3_rent_83 : decode cX3_rent 83 = .ok (.iload_n 3, 1) := by decide +kernel
theorem dX3_rent_84 : decode cX3_rent 84 = .ok (.iadd, 1) := by decide +kernel
theorem dX3_rent_85 : decode cX3_rent 85 = .ok (.iastore, 1) := by decide +kernel
theorem dX3_rent_86 : decode cX3_rent 86 = .ok (.aload_n 0, 1) := by decide +kernel
theorem dX3_rent_87 : decode cX3_rent 87 = .ok (.getfield 29, 3) := by decide +kernel
theorem dX3_rent_90 : decode cX3_rent 90 = .ok (.iload_n 1, 1) := by decide +kernel
theorem dX3_rent_91 : decode cX3_rent 91 = .ok (.iconst 0, 1) := by decide +kernel
theorem dX3_rent_92 : decode cX3_rent 92 = .ok (.iastore, 1) := by decide +kernel
theorem dX3_rent_93 : decode cX3_rent 93 = .ok (.aload_n 0, 1) := by decide +kernel
theorem dX3_rent_94 : decode cX3_rent 94 = .ok (.getfield 32, 3) := by decide +kernel
theorem dX3_rent_97 : decode cX3_rent 97 = .ok (.iload_n 1, 1) := by decide +kernel
theorem dX3_rent_98 : decode cX3_rent 98 = .ok (.iconst 0, 1) := by decide +kernel
theorem dX3_rent_99 : decode cX3_rent 99 = .ok (.bastore, 1) := by decide +kernel
theorem dX3_rent_100 : decode cX3_rent 100 = .ok (.aload_n 0, 1) := by decide +kernel
theorem dX3_rent_101 : decode cX3_rent 101 = .ok (.getfield 26, 3) := by decide +kernel
theorem dX3_rent_104 : decode cX3_rent 104 = .ok (.iload_n 1, 1) := by decide +kernel
theorem dX3_rent_105 : decode cX3_rent 105 = .ok (.iaload, 1) := by decide +kernel
theorem dX3_rent_106 : decode cX3_rent 106 = .ok (.ireturn, 1) := by decide +kernel
set_option maxRecDepth 20000 in
theorem ggX3_extend_X3_isBox : GoodIn wsX3_extend wsX3_isBox := goodIn_r _ [6, 7, 8, 5, 9] (by decide +kernel) (by decide +kernel)
set_option maxRecDepth 20000 in
theorem gX3_extend_X3_isBox : GoodIn wsX3_extend (va_wsS RX3 107 yX3_isBox wsX3_isBox) := goodIn_app (goodIn_of _ (by decide +kernel)) ggX3_extend_X3_isBox
set_option maxRecDepth 20000 in
theorem ggX3_extend_X3_in : GoodIn wsX3_extend wsX3_in := goodIn_r _ [9] (by decide +kernel) (by decide +kernel)
set_option maxRecDepth 20000 in
theorem gX3_extend_X3_in : GoodIn wsX3_extend (va_wsS RX3 69 yX3_in wsX3_in) := goodIn_app (goodIn_of _ (by decide +kernel)) ggX3_extend_X3_in
set_option maxRecDepth 20000 in
theorem ggX3_extend_X3_fails : GoodIn wsX3_extend wsX3_fails := goodIn_r _ [13, 1, 19, 20, 21, 22, 23, 24, 25, 26, 27, 28, 29, 30, 31, 32, 33, 34, 35, 36, 37, 38, 39] (by decide +kernel) (by decide +kernel)
set_option maxRecDepth 20000 in
theorem gX3_extend_X3_fails : GoodIn wsX3_extend (wsV RX3 103 RX3 yX3_fails wsX3_fails) := goodIn_app (goodIn_of _ (by decide +kernel)) ggX3_extend_X3_fails
set_option maxRecDepth 20000 in
theorem ggX3_extend_X3_isRented : GoodIn wsX3_extend wsX3_isRented := goodIn_r _ [17, 18, 19, 20, 21, 22, 23, 24, 25, 26, 27, 28, 29, 30, 31, 32, 33, 34, 35, 36, 37, 38, 39] (by decide +kernel) (by decide +kernel)
set_option maxRecDepth 20000 in
theorem gX3_extend_X3_isRented : GoodIn wsX3_extend (wsV RX3 80 RX3 yX3_isRented wsX3_isRented) := goodIn_app (goodIn_of _ (by decide +kernel)) ggX3_extend_X3_isRented
theorem dX3_extend_0 : decode cX3_extend 0 = .ok (.aload_n 0, 1) := by decide +kernel
theorem dX3_extend_1 : decode cX3_extend 1 = .ok (.iconst 0, 1) := by decide +kernel
theorem dX3_extend_2 : decode cX3_extend 2 = .ok (.putfield 65, 3) := by decide +kernel
theorem dX3_extend_5 : decode cX3_extend 5 = .ok (.iload_n 1, 1) := by decide +kernel
theorem dX3_extend_6 : decode cX3_extend 6 = .ok (.invokestatic 107, 3) := by decide +kernel
theorem dX3_extend_9 : decode cX3_extend 9 = .ok (.ifCond .eq 14, 3) := by decide +kernel
theorem dX3_extend_12 : decode cX3_extend 12 = .ok (.iload_n 2, 1) := by decide +kernel
theorem dX3_extend_13 : decode cX3_extend 13 = .ok (.iconst 1, 1) := by decide +kernel
theorem dX3_extend_14 : decode cX3_extend 14 = .ok (.sipush 1000, 3) := by decide +kernel
theorem dX3_extend_17 : decode cX3_extend 17 = .ok (.invokestatic 69, 3) := by decide +kernel
theorem dX3_extend_20 : decode cX3_extend 20 = .ok (.ifCond .ne 9, 3) := by decide +kernel
theorem dX3_extend_23 : decode cX3_extend 23 = .ok (.aload_n 0, 1) := by decide +kernel
theorem dX3_extend_24 : decode cX3_extend 24 = .ok (.iconst 1, 1) := by decide +kernel
theorem dX3_extend_25 : decode cX3_extend 25 = .ok (.invokevirtual 103, 3) := by decide +kernel
theorem dX3_extend_28 : decode cX3_extend 28 = .ok (.ireturn, 1) := by decide +kernel
theorem dX3_extend_29 : decode cX3_extend 29 = .ok (.aload_n 0, 1) := by decide +kernel
theorem dX3_extend_30 : decode cX3_extend 30 = .ok (.iload_n 1, 1) := by decide +kernel
theorem dX3_extend_31 : decode cX3_extend 31 = .ok (.invokevirtual 80, 3) := by decide +kernel
theorem dX3_extend_34 : decode cX3_extend 34 = .ok (.ifCond .ne 9, 3) := by decide +kernel
theorem dX3_extend_37 : decode cX3_extend 37 = .ok (.aload_n 0, 1) := by decide +kernel
theorem dX3_extend_38 : decode cX3_extend 38 = .ok (.iconst 2, 1) := by decide +kernel
theorem dX3_extend_39 : decode cX3_extend 39 = .ok (.invokevirtual 103, 3) := by decide +kernel
theorem dX3_extend_42 : decode cX3_extend 42 = .ok (.ireturn, 1) := by decide +kernel
theorem dX3_extend_43 : decode cX3_extend 43 = .ok (.aload_n 0, 1) := by decide +kernel
theorem dX3_extend_44 : decode cX3_extend 44 = .ok (.getfield 26, 3) := by decide +kernel
theorem dX3_extend_47 : decode cX3_extend 47 = .ok (.iload_n 1, 1) := by decide +kernel
theorem dX3_extend_48 : decode cX3_extend 48 = .ok (.dup2, 1) := by decide +kernel
theorem dX3_extend_49 : decode cX3_extend 49 = .ok (.iaload, 1) := by decide +kernel
theorem dX3_extend_50 : decode cX3_extend 50 = .ok (.iload_n 2, 1) := by decide +kernel
theorem dX3_extend_51 : decode cX3_extend 51 = .ok (.iadd, 1) := by decide +kernel
theorem dX3_extend_52 : decode cX3_extend 52 = .ok (.iastore, 1) := by decide +kernel
theorem dX3_extend_53 : decode cX3_extend 53 = .ok (.aload_n 0, 1) := by decide +kernel
theorem dX3_extend_54 : decode cX3_extend 54 = .ok (.getfield 26, 3) := by decide +kernel
theorem dX3_extend_57 : decode cX3_extend 57 = .ok (.iload_n 1, 1) := by decide +kernel
theorem dX3_extend_58 : decode cX3_extend 58 = .ok (.iaload, 1) := by decide +kernel
theorem dX3_extend_59 : decode cX3_extend 59 = .ok (.ireturn, 1) := by decide +kernel
set_option maxRecDepth 20000 in
theorem ggX3_giveBack_X3_isBox : GoodIn wsX3_giveBack wsX3_isBox := goodIn_r _ [6, 7, 8, 5, 9] (by decide +kernel) (by decide +kernel)
set_option maxRecDepth 20000 in
theorem gX3_giveBack_X3_isBox : GoodIn wsX3_giveBack (va_wsS RX3 107 yX3_isBox wsX3_isBox) := goodIn_app (goodIn_of _ (by decide +kernel)) ggX3_giveBack_X3_isBox
set_option maxRecDepth 20000 in
theorem ggX3_giveBack_X3_isPerson : GoodIn wsX3_giveBack wsX3_isPerson := goodIn_r _ [12, 7, 8, 5, 9] (by decide +kernel) (by decide +kernel)
set_option maxRecDepth 20000 in
theorem gX3_giveBack_X3_isPerson : GoodIn wsX3_giveBack (va_wsS RX3 110 yX3_isPerson wsX3_isPerson) := goodIn_app (goodIn_of _ (by decide +kernel)) ggX3_giveBack_X3_isPerson
set_option maxRecDepth 20000 in
theorem ggX3_giveBack_X3_fails : GoodIn wsX3_giveBack wsX3_fails := goodIn_r _ [16, 1, 70, 71, 72, 73, 74, 75, 76, 77, 78, 79, 80, 81, 82, 83, 84, 85, 86, 87, 88, 89, 90] (by decide +kernel) (by decide +kernel)
set_option maxRecDepth 20000 in
theorem gX3_giveBack_X3_fails : GoodIn wsX3_giveBack (wsV RX3 103 RX3 yX3_fails wsX3_fails) := goodIn_app (goodIn_of _ (by decide +kernel)) ggX3_giveBack_X3_fails
set_option maxRecDepth 20000 in
theorem ggX3_giveBack_X3_right : GoodIn wsX3_giveBack wsX3_right := goodIn_r _ [20, 21, 22, 23, 24, 25, 26, 5, 27, 28, 29, 30, 31, 32, 33, 34, 35, 36, 37, 38, 39, 40, 41, 42, 43, 44, 45, 46, 47, 48, 49, 50, 51, 52, 53, 54, 55, 56, 57, 58, 59, 60, 61, 62, 63, 64, 65, 7, 8, 9, 70, 71, 72, 73, 74, 75, 76, 77, 78, 79, 80, 81, 82, 83, 84, 85, 86, 87, 88, 89, 90] (by decide +kernel) (by decide +kernel)
set_option maxRecDepth 20000 in
theorem gX3_giveBack_X3_right : GoodIn wsX3_giveBack (wsV RX3 113 RX3 yX3_right wsX3_right) := goodIn_app (goodIn_of _ (by decide +kernel)) ggX3_giveBack_X3_right
set_option maxRecDepth 20000 in
theorem ggX3_giveBack_X3_frees : GoodIn wsX3_giveBack wsX3_frees := goodIn_r _ [69, 28, 62, 33, 34, 35, 70, 71, 72, 73, 74, 75, 76, 77, 78, 79, 80, 81, 82, 83, 84, 85, 86, 87, 88, 89, 90] (by decide +kernel) (by decide +kernel)
set_option maxRecDepth 20000 in
theorem gX3_giveBack_X3_frees : GoodIn wsX3_giveBack (wsV RX3 117 RX3 yX3_frees wsX3_frees) := goodIn_app (goodIn_of _ (by decide +kernel)) ggX3_giveBack_X3_frees
theorem dX3_giveBack_0 : decode cX3_giveBack 0 = .ok (.aload_n 0, 1) := by decide +kernel
theorem dX3_giveBack_1 : decode cX3_giveBack 1 = .ok (.iconst 0, 1) := by decide +kernel
theorem dX3_giveBack_2 : decode cX3_giveBack 2 = .ok (.putfield 65, 3) := by decide +kernel
theorem dX3_giveBack_5 : decode cX3_giveBack 5 = .ok (.iload_n 1, 1) := by decide +kernel
theorem dX3_giveBack_6 : decode cX3_giveBack 6 = .ok (.invokestatic 107, 3) := by decide +kernel
theorem dX3_giveBack_9 : decode cX3_giveBack 9 = .ok (.ifCond .eq 10, 3) := by decide +kernel
theorem dX3_giveBack_12 : decode cX3_giveBack 12 = .ok (.iload_n 2, 1) := by decide +kernel
theorem dX3_giveBack_13 : decode cX3_giveBack 13 = .ok (.invokestatic 110, 3) := by decide +kernel
theorem dX3_giveBack_16 : decode cX3_giveBack 16 = .ok (.ifCond .ne 9, 3) := by decide +kernel
theorem dX3_giveBack_19 : decode cX3_giveBack 19 = .ok (.aload_n 0, 1) := by decide +kernel
theorem dX3_giveBack_20 : decode cX3_giveBack 20 = .ok (.iconst 1, 1) := by decide +kernel
theorem dX3_giveBack_21 : decode cX3_giveBack 21 = .ok (.invokevirtual 103, 3) := by decide +kernel
theorem dX3_giveBack_24 : decode cX3_giveBack 24 = .ok (.ireturn, 1) := by decide +kernel
theorem dX3_giveBack_25 : decode cX3_giveBack 25 = .ok (.aload_n 0, 1) := by decide +kernel
theorem dX3_giveBack_26 : decode cX3_giveBack 26 = .ok (.iload_n 1, 1) := by decide +kernel
theorem dX3_giveBack_27 : decode cX3_giveBack 27 = .ok (.iload_n 2, 1) := by decide +kernel
theorem dX3_giveBack_28 : decode cX3_giveBack 28 = .ok (.invokevirtual 113, 3) := by decide +kernel
theorem dX3_giveBack_31 : decode cX3_giveBack 31 = .ok (.ifCond .eq 9, 3) := by decide +kernel
theorem dX3_giveBack_34 : decode cX3_giveBack 34 = .ok (.aload_n 0, 1) := by decide +kernel
theorem dX3_giveBack_35 : decode cX3_giveBack 35 = .ok (.iconst 2, 1) := by decide +kernel
theorem dX3_giveBack_36 : decode cX3_giveBack 36 = .ok (.invokevirtual 103, 3) := by decide +kernel
theorem dX3_giveBack_39 : decode cX3_giveBack 39 = .ok (.ireturn, 1) := by decide +kernel
theorem dX3_giveBack_40 : decode cX3_giveBack 40 = .ok (.aload_n 0, 1) := by decide +kernel
theorem dX3_giveBack_41 : decode cX3_giveBack 41 = .ok (.iload_n 1, 1) := by decide +kernel
theorem dX3_giveBack_42 : decode cX3_giveBack 42 = .ok (.invokevirtual 117, 3) := by decide +kernel
theorem dX3_giveBack_45 : decode cX3_giveBack 45 = .ok (.aload_n 0, 1) := by decide +kernel
theorem dX3_giveBack_46 : decode cX3_giveBack 46 = .ok (.getfield 29, 3) := by decide +kernel
theorem dX3_giveBack_49 : decode cX3_giveBack 49 = .ok (.iload_n 1, 1) := by decide +kernel
theorem dX3_giveBack_50 : decode cX3_giveBack 50 = .ok (.iaload, 1) := by decide +kernel
theorem dX3_giveBack_51 : decode cX3_giveBack 51 = .ok (.ireturn, 1) := by decide +kernel
set_option maxRecDepth 20000 in
theorem ggX3_drill_X3_isBox : GoodIn wsX3_drill wsX3_isBox := goodIn_r _ [10, 11, 12, 9, 13] (by decide +kernel) (by decide +kernel)
set_option maxRecDepth 20000 in
theorem gX3_drill_X3_isBox : GoodIn wsX3_drill (va_wsS RX3 107 yX3_isBox wsX3_isBox) := goodIn_app (goodIn_of _ (by decide +kernel)) ggX3_drill_X3_isBox
set_option maxRecDepth 20000 in
theorem ggX3_drill_X3_isPerson : GoodIn wsX3_drill wsX3_isPerson := goodIn_r _ [16, 11, 12, 9, 13] (by decide +kernel) (by decide +kernel)
set_option maxRecDepth 20000 in
theorem gX3_drill_X3_isPerson : GoodIn wsX3_drill (va_wsS RX3 110 yX3_isPerson wsX3_isPerson) := goodIn_app (goodIn_of _ (by decide +kernel)) ggX3_drill_X3_isPerson
set_option maxRecDepth 20000 in
theorem ggX3_drill_X3_fails : GoodIn wsX3_drill wsX3_fails := goodIn_r _ [20, 1, 43, 44, 45, 46, 47, 48, 49, 50, 51, 52, 53, 54, 55, 56, 57, 58, 59, 60, 61, 62, 63] (by decide +kernel) (by decide +kernel)
set_option maxRecDepth 20000 in
theorem gX3_drill_X3_fails : GoodIn wsX3_drill (wsV RX3 103 RX3 yX3_fails wsX3_fails) := goodIn_app (goodIn_of _ (by decide +kernel)) ggX3_drill_X3_fails
set_option maxRecDepth 20000 in
theorem ggX3_drill_X3_binds : GoodIn wsX3_drill wsX3_binds := goodIn_r _ [24, 25, 26, 27, 28, 43, 44, 45, 46, 47, 48, 49, 50, 51, 52, 53, 54, 55, 56, 57, 58, 59, 60, 61, 62, 63] (by decide +kernel) (by decide +kernel)
set_option maxRecDepth 20000 in
theorem gX3_drill_X3_binds : GoodIn wsX3_drill (wsV RX3 91 RX3 yX3_binds wsX3_binds) := goodIn_app (goodIn_of _ (by decide +kernel)) ggX3_drill_X3_binds
set_option maxRecDepth 20000 in
theorem ggX3_drill_X3_noticesOf : GoodIn wsX3_drill wsX3_noticesOf := goodIn_r _ [32, 33, 34, 35, 9, 36, 37, 38, 39, 40, 41, 42, 6, 43, 44, 45, 46, 47, 48, 49, 50, 51, 52, 53, 54, 55, 56, 57, 58, 59, 60, 61, 62, 63] (by decide +kernel) (by decide +kernel)
set_option maxRecDepth 20000 in
theorem gX3_drill_X3_noticesOf : GoodIn wsX3_drill (wsV RX3 97 RX3 yX3_noticesOf wsX3_noticesOf) := goodIn_app (goodIn_of _ (by decide +kernel)) ggX3_drill_X3_noticesOf
set_option maxRecDepth 20000 in
theorem ggX3_drill_X3_overdue : GoodIn wsX3_drill wsX3_overdue := goodIn_r _ [36, 37, 38, 43, 44, 45, 46, 47, 48, 49, 50, 51, 52, 53, 54, 55, 56, 57, 58, 59, 60, 61, 62, 63] (by decide +kernel) (by decide +kernel)
set_option maxRecDepth 20000 in
theorem gX3_drill_X3_overdue : GoodIn wsX3_drill (wsV RX3 76 RX3 yX3_overdue wsX3_overdue) := goodIn_app (goodIn_of _ (by decide +kernel)) ggX3_drill_X3_overdue
theorem dX3_drill_0 : decode cX3_drill 0 = .ok (.aload_n 0, 1) := by decide +kernel
theorem dX3_drill_1 : decode cX3_drill 1 = .ok (.iconst 0, 1) := by decide +kernel
theorem dX3_drill_2 : decode cX3_drill 2 = .ok (.putfield 65, 3) := by decide +kernel
theorem dX3_drill_5 : decode cX3_drill 5 = .ok (.iload_n 1, 1) := by decide +kernel
theorem dX3_drill_6 : decode cX3_drill 6 = .ok (.invokestatic 107, 3) := by decide +kernel
theorem dX3_drill_9 : decode cX3_drill 9 = .ok (.ifCond .eq 22, 3) := by decide +kernel
theorem dX3_drill_12 : decode cX3_drill 12 = .ok (.iload_n 2, 1) := by decide +kernel
theorem dX3_drill_13 : decode cX3_drill 13 = .ok (.invokestatic 110, 3) := by decide +kernel
theorem dX3_drill_16 : decode cX3_drill 16 = .ok (.ifCond .eq 15, 3) := by decide +kernel
theorem dX3_drill_19 : decode cX3_drill 19 = .ok (.iload_n 3, 1) := by decide +kernel
theorem dX3_drill_20 : decode cX3_drill 20 = .ok (.invokestatic 110, 3) := by decide +kernel
theorem dX3_drill_23 : decode cX3_drill 23 = .ok (.ifCond .eq 8, 3) := by decide +kernel
theorem dX3_drill_26 : decode cX3_drill 26 = .ok (.iload_n 2, 1) := by decide +kernel
theorem dX3_drill_27 : decode cX3_drill 27 = .ok (.iload_n 3, 1) := by decide +kernel
theorem dX3_drill_28 : decode cX3_drill 28 = .ok (.if_icmp .ne 9, 3) := by decide +kernel
theorem dX3_drill_31 : decode cX3_drill 31 = .ok (.aload_n 0, 1) := by decide +kernel
theorem dX3_drill_32 : decode cX3_drill 32 = .ok (.iconst 1, 1) := by decide +kernel
theorem dX3_drill_33 : decode cX3_drill 33 = .ok (.invokevirtual 103, 3) := by decide +kernel
theorem dX3_drill_36 : decode cX3_drill 36 = .ok (.ireturn, 1) := by decide +kernel
theorem dX3_drill_37 : decode cX3_drill 37 = .ok (.aload_n 0, 1) := by decide +kernel
theorem dX3_drill_38 : decode cX3_drill 38 = .ok (.iload_n 1, 1) := by decide +kernel
theorem dX3_drill_39 : decode cX3_drill 39 = .ok (.invokevirtual 91, 3) := by decide +kernel
theorem dX3_drill_42 : decode cX3_drill 42 = .ok (.istore 4, 2) := by decide +kernel
theorem dX3_drill_44 : decode cX3_drill 44 = .ok (.aload_n 0, 1) := by decide +kernel
theorem dX3_drill_45 : decode cX3_drill 45 = .ok (.iload_n 1, 1) := by decide +kernel
theorem dX3_drill_46 : decode cX3_drill 46 = .ok (.invokevirtual 97, 3) := by decide +kernel
theorem dX3_drill_49 : decode cX3_drill 49 = .ok (.iconst 3, 1) := by decide +kernel
theorem dX3_drill_50 : decode cX3_drill 50 = .ok (.if_icmp .ne 45, 3) := by decide +kernel
theorem dX3_drill_53 : decode cX3_drill 53 = .ok (.aload_n 0, 1) := by decide +kernel
theorem dX3_drill_54 : decode cX3_drill 54 = .ok (.getfield 7, 3) := by decide +kernel
theorem dX3_drill_57 : decode cX3_drill 57 = .ok (.iload_n 2, 1) := by decide +kernel
theorem dX3_drill_58 : decode cX3_drill 58 = .ok (.baload, 1) := by decide +kernel
theorem dX3_drill_59 : decode cX3_drill 59 = .ok (.ifCond .ne 36, 3) := by decide +kernel
theorem dX3_drill_62 : decode cX3_drill 62 = .ok (.aload_n 0, 1) := by decide +kernel
theorem dX3_drill_63 : decode cX3_drill 63 = .ok (.getfield 7, 3) := by decide +kernel
theorem dX3_drill_66 : decode cX3_drill 66 = .ok (.iload_n 3, 1) := by decide +kernel
theorem dX3_drill_67 : decode cX3_drill 67 = .ok (.baload, 1) := by decide +kernel
theorem dX3_drill_68 : decode cX3_drill 68 = .ok (.ifCond .ne 27, 3) := by decide +kernel
theorem dX3_drill_71 : decode cX3_drill 71 = .ok (.iload_n 2, 1) := by decide +kernel
theorem dX3_drill_72 : decode cX3_drill 72 = .ok (.aload_n 0, 1) := by decide +kernel
theorem dX3_drill_73 : decode cX3_drill 73 = .ok (.getfield 23, 3) := by decide +kernel
theorem dX3_drill_76 : decode cX3_drill 76 = .ok (.iload_n 1, 1) := by decide +kernel
theorem dX3_drill_77 : decode cX3_drill 77 = .ok (.iaload, 1) := by decide +kernel
theorem dX3_drill_78 : decode cX3_drill 78 = .ok (.if_icmp .eq 17, 3) := by decide +kernel
theorem dX3_drill_81 : decode cX3_drill 81 = .ok (.iload_n 3, 1) := by decide +kernel
theorem dX3_drill_82 : decode cX3_drill 82 = .ok (.aload_n 0, 1) := by decide +kernel
theorem dX3_drill_83 : decode cX3_drill 83 = .ok (.getfield 23, 3) := by decide +kernel
theorem dX3_drill_86 : decode cX3_drill 86 = .ok (.iload_n 1, 1) := by decide +kernel
theorem dX3_drill_87 : decode cX3_drill 87 = .ok (.iaload, 1) := by decide +kernel
theorem dX3_drill_88 : decode cX3_drill 88 = .ok (.if_icmp .eq 7, 3) := by decide +kernel
theorem dX3_drill_91 : decode cX3_drill 91 = .ok (.iconst 1, 1) := by decide +kernel
theorem dX3_drill_92 : decode cX3_drill 92 = .ok (.goto 4, 3) := by decide +kernel
theorem dX3_drill_95 : decode cX3_drill 95 = .ok (.iconst 0, 1) := by decide +kernel
theorem dX3_drill_96 : decode cX3_drill 96 = .ok (.istore 5, 2) := by decide +kernel
theorem dX3_drill_98 : decode cX3_drill 98 = .ok (.iload 5, 2) := by decide +kernel
theorem dX3_drill_100 : decode cX3_drill 100 = .ok (.ifCond .eq 19, 3) := by decide +kernel
theorem dX3_drill_103 : decode cX3_drill 103 = .ok (.iload 4, 2) := by decide +kernel
theorem dX3_drill_105 : decode cX3_drill 105 = .ok (.iconst (-1), 1) := by decide +kernel
theorem dX3_drill_106 : decode cX3_drill 106 = .ok (.if_icmp .eq 19, 3) := by decide +kernel
theorem dX3_drill_109 : decode cX3_drill 109 = .ok (.aload_n 0, 1) := by decide +kernel
theorem dX3_drill_110 : decode cX3_drill 110 = .ok (.getfield 56, 3) := by decide +kernel
theorem dX3_drill_113 : decode cX3_drill 113 = .ok (.iload 4, 2) := by decide +kernel
theorem dX3_drill_115 : decode cX3_drill 115 = .ok (.iaload, 1) := by decide +kernel
theorem dX3_drill_116 : decode cX3_drill 116 = .ok (.ifCond .ne 9, 3) := by decide +kernel
theorem dX3_drill_119 : decode cX3_drill 119 = .ok (.aload_n 0, 1) := by decide +kernel
theorem dX3_drill_120 : decode cX3_drill 120 = .ok (.iconst 2, 1) := by decide +kernel
theorem dX3_drill_121 : decode cX3_drill 121 = .ok (.invokevirtual 103, 3) := by decide +kernel
theorem dX3_drill_124 : decode cX3_drill 124 = .ok (.ireturn, 1) := by decide +kernel
theorem dX3_drill_125 : decode cX3_drill 125 = .ok (.aload_n 0, 1) := by decide +kernel
theorem dX3_drill_126 : decode cX3_drill 126 = .ok (.getfield 35, 3) := by decide +kernel
theorem dX3_drill_129 : decode cX3_drill 129 = .ok (.iload_n 1, 1) := by decide +kernel
theorem dX3_drill_130 : decode cX3_drill 130 = .ok (.aload_n 0, 1) := by decide +kernel
theorem dX3_drill_131 : decode cX3_drill 131 = .ok (.iload_n 1, 1) := by decide +kernel
theorem dX3_drill_132 : decode cX3_drill 132 = .ok (.invokevirtual 76, 3) := by decide +kernel
theorem dX3_drill_135 : decode cX3_drill 135 = .ok (.iastore, 1) := by decide +kernel
theorem dX3_drill_136 : decode cX3_drill 136 = .ok (.aload_n 0, 1) := by decide +kernel
theorem dX3_drill_137 : decode cX3_drill 137 = .ok (.getfield 20, 3) := by decide +kernel
theorem dX3_drill_140 : decode cX3_drill 140 = .ok (.iload_n 1, 1) := by decide +kernel
theorem dX3_drill_141 : decode cX3_drill 141 = .ok (.iconst 2, 1) := by decide +kernel
theorem dX3_drill_142 : decode cX3_drill 142 = .ok (.iastore, 1) := by decide +kernel
theorem dX3_drill_143 : decode cX3_drill 143 = .ok (.aload_n 0, 1) := by decide +kernel
theorem dX3_drill_144 : decode cX3_drill 144 = .ok (.getfield 35, 3) := by decide +kernel
theorem dX3_drill_147 : decode cX3_drill 147 = .ok (.iload_n 1, 1) := by decide +kernel
theorem dX3_drill_148 : decode cX3_drill 148 = .ok (.iaload, 1) := by decide +kernel
theorem dX3_drill_149 : decode cX3_drill 149 = .ok (.ireturn, 1) := by decide +kernel
set_option maxRecDepth 20000 in
theorem ggX3_fetch_X3_isBox : GoodIn wsX3_fetch wsX3_isBox := goodIn_r _ [9, 10, 11, 8, 12] (by decide +kernel) (by decide +kernel)
set_option maxRecDepth 20000 in
theorem gX3_fetch_X3_isBox : GoodIn wsX3_fetch (va_wsS RX3 107 yX3_isBox wsX3_isBox) := goodIn_app (goodIn_of _ (by decide +kernel)) ggX3_fetch_X3_isBox
set_option maxRecDepth 20000 in
theorem ggX3_fetch_X3_isPerson : GoodIn wsX3_fetch wsX3_isPerson := goodIn_r _ [15, 10, 11, 8, 12] (by decide +kernel) (by decide +kernel)
set_option maxRecDepth 20000 in
theorem gX3_fetch_X3_isPerson : GoodIn wsX3_fetch (va_wsS RX3 110 yX3_isPerson wsX3_isPerson) := goodIn_app (goodIn_of _ (by decide +kernel)) ggX3_fetch_X3_isPerson
set_option maxRecDepth 20000 in
theorem ggX3_fetch_X3_fails : GoodIn wsX3_fetch wsX3_fails := goodIn_r _ [19, 1, 44, 45, 46, 47, 48, 49, 50, 51, 52, 53, 54, 55, 56, 57, 58, 59, 60, 61, 62, 63, 64] (by decide +kernel) (by decide +kernel)
set_option maxRecDepth 20000 in
theorem gX3_fetch_X3_fails : GoodIn wsX3_fetch (wsV RX3 103 RX3 yX3_fails wsX3_fails) := goodIn_app (goodIn_of _ (by decide +kernel)) ggX3_fetch_X3_fails
set_option maxRecDepth 20000 in
theorem ggX3_fetch_X3_binds : GoodIn wsX3_fetch wsX3_binds := goodIn_r _ [23, 24, 25, 26, 27, 44, 45, 46, 47, 48, 49, 50, 51, 52, 53, 54, 55, 56, 57, 58, 59, 60, 61, 62, 63, 64] (by decide +kernel) (by decide +kernel)
set_option maxRecDepth 20000 in
theorem gX3_fetch_X3_binds : GoodIn wsX3_fetch (wsV RX3 91 RX3 yX3_binds wsX3_binds) := goodIn_app (goodIn_of _ (by decide +kernel)) ggX3_fetch_X3_binds
set_option maxRecDepth 20000 in
theorem ggX3_fetch_X3_isOrdered : GoodIn wsX3_fetch wsX3_isOrdered := goodIn_r _ [31, 4, 26, 32, 33, 3, 34, 35, 36, 8, 37, 38, 44, 45, 46, 47, 48, 49, 50, 51, 52, 53, 54, 55, 56, 57, 58, 59, 60, 61, 62, 63, 64] (by decide +kernel) (by decide +kernel)
set_option maxRecDepth 20000 in
theorem gX3_fetch_X3_isOrdered : GoodIn wsX3_fetch (wsV RX3 94 RX3 yX3_isOrdered wsX3_isOrdered) := goodIn_app (goodIn_of _ (by decide +kernel)) ggX3_fetch_X3_isOrdered
set_option maxRecDepth 20000 in
theorem ggX3_fetch_X3_isHeir : GoodIn wsX3_fetch wsX3_isHeir := goodIn_r _ [37, 38, 44, 45, 46, 47, 48, 49, 50, 51, 52, 53, 54, 55, 56, 57, 58, 59, 60, 61, 62, 63, 64] (by decide +kernel) (by decide +kernel)
set_option maxRecDepth 20000 in
theorem gX3_fetch_X3_isHeir : GoodIn wsX3_fetch (wsV RX3 87 RX3 yX3_isHeir wsX3_isHeir) := goodIn_app (goodIn_of _ (by decide +kernel)) ggX3_fetch_X3_isHeir
set_option maxRecDepth 20000 in
theorem ggX3_fetch_X3_frees : GoodIn wsX3_fetch wsX3_frees := goodIn_r _ [42, 2, 43, 24, 25, 26, 44, 45, 46, 47, 48, 49, 50, 51, 52, 53, 54, 55, 56, 57, 58, 59, 60, 61, 62, 63, 64] (by decide +kernel) (by decide +kernel)
set_option maxRecDepth 20000 in
theorem gX3_fetch_X3_frees : GoodIn wsX3_fetch (wsV RX3 117 RX3 yX3_frees wsX3_frees) := goodIn_app (goodIn_of _ (by decide +kernel)) ggX3_fetch_X3_frees
theorem dX3_fetch_0 : decode cX3_fetch 0 = .ok (.aload_n 0, 1) := by decide +kernel
theorem dX3_fetch_1 : decode cX3_fetch 1 = .ok (.iconst 0, 1) := by decide +kernel
theorem dX3_fetch_2 : decode cX3_fetch 2 = .ok (.putfield 65, 3) := by decide +kernel
theorem dX3_fetch_5 : decode cX3_fetch 5 = .ok (.iload_n 1, 1) := by decide +kernel
theorem dX3_fetch_6 : decode cX3_fetch 6 = .ok (.invokestatic 107, 3) := by decide +kernel
theorem dX3_fetch_9 : decode cX3_fetch 9 = .ok (.ifCond .eq 10, 3) := by decide +kernel
theorem dX3_fetch_12 : decode cX3_fetch 12 = .ok (.iload_n 2, 1) := by decide +kernel
theorem dX3_fetch_13 : decode cX3_fetch 13 = .ok (.invokestatic 110, 3) := by decide +kernel
theorem dX3_fetch_16 : decode cX3_fetch 16 = .ok (.ifCond .ne 9, 3) := by decide +kernel
theorem dX3_fetch_19 : decode cX3_fetch 19 = .ok (.aload_n 0, 1) := by decide +kernel
theorem dX3_fetch_20 : decode cX3_fetch 20 = .ok (.iconst 1, 1) := by decide +kernel
theorem dX3_fetch_21 : decode cX3_fetch 21 = .ok (.invokevirtual 103, 3) := by decide +kernel
theorem dX3_fetch_24 : decode cX3_fetch 24 = .ok (.ireturn, 1) := by decide +kernel
theorem dX3_fetch_25 : decode cX3_fetch 25 = .ok (.aload_n 0, 1) := by decide +kernel
theorem dX3_fetch_26 : decode cX3_fetch 26 = .ok (.getfield 20, 3) := by decide +kernel
theorem dX3_fetch_29 : decode cX3_fetch 29 = .ok (.iload_n 1, 1) := by decide +kernel
theorem dX3_fetch_30 : decode cX3_fetch 30 = .ok (.iaload, 1) := by decide +kernel
theorem dX3_fetch_31 : decode cX3_fetch 31 = .ok (.iconst 2, 1) := by decide +kernel
theorem dX3_fetch_32 : decode cX3_fetch 32 = .ok (.if_icmp .ne 12, 3) := by decide +kernel
theorem dX3_fetch_35 : decode cX3_fetch 35 = .ok (.aload_n 0, 1) := by decide +kernel
theorem dX3_fetch_36 : decode cX3_fetch 36 = .ok (.getfield 7, 3) := by decide +kernel
theorem dX3_fetch_39 : decode cX3_fetch 39 = .ok (.iload_n 2, 1) := by decide +kernel
theorem dX3_fetch_40 : decode cX3_fetch 40 = .ok (.baload, 1) := by decide +kernel
theorem dX3_fetch_41 : decode cX3_fetch 41 = .ok (.ifCond .eq 9, 3) := by decide +kernel
theorem dX3_fetch_44 : decode cX3_fetch 44 = .ok (.aload_n 0, 1) := by decide +kernel
theorem dX3_fetch_45 : decode cX3_fetch 45 = .ok (.iconst 2, 1) := by decide +kernel
theorem dX3_fetch_46 : decode cX3_fetch 46 = .ok (.invokevirtual 103, 3) := by decide +kernel
theorem dX3_fetch_49 : decode cX3_fetch 49 = .ok (.ireturn, 1) := by decide +kernel
theorem dX3_fetch_50 : decode cX3_fetch 50 = .ok (.aload_n 0, 1) := by decide +kernel
theorem dX3_fetch_51 : decode cX3_fetch 51 = .ok (.iload_n 1, 1) := by decide +kernel
theorem dX3_fetch_52 : decode cX3_fetch 52 = .ok (.invokevirtual 91, 3) := by decide +kernel
theorem dX3_fetch_55 : decode cX3_fetch 55 = .ok (.istore_n 3, 1) := by decide +kernel
theorem dX3_fetch_56 : decode cX3_fetch 56 = .ok (.iload_n 3, 1) := by decide +kernel
theorem dX3_fetch_57 : decode cX3_fetch 57 = .ok (.iconst (-1), 1) := by decide +kernel
theorem dX3_fetch_58 : decode cX3_fetch 58 = .ok (.if_icmp .eq 12, 3) := by decide +kernel
theorem dX3_fetch_61 : decode cX3_fetch 61 = .ok (.aload_n 0, 1) := by decide +kernel
theorem dX3_fetch_62 : decode cX3_fetch 62 = .ok (.iload_n 3, 1) := by decide +kernel
theorem dX3_fetch_63 : decode cX3_fetch 63 = .ok (.iload_n 2, 1) := by decide +kernel
theorem dX3_fetch_64 : decode cX3_fetch 64 = .ok (.invokevirtual 94, 3) := by decide +kernel
theorem dX3_fetch_67 : decode cX3_fetch 67 = .ok (.goto 46, 3) := by decide +kernel
theorem dX3_fetch_70 : decode cX3_fetch 70 = .ok (.aload_n 0, 1) := by decide +kernel
theorem dX3_fetch_71 : decode cX3_fetch 71 = .ok (.getfield 7, 3) := by decide +kernel
theorem dX3_fetch_74 : decode cX3_fetch 74 = .ok (.aload_n 0, 1) := by decide +kernel
theorem dX3_fetch_75 : decode cX3_fetch 75 = .ok (.getfield 23, 3) := by decide +kernel
theorem dX3_fetch_78 : decode cX3_fetch 78 = .ok (.iload_n 1, 1) := by decide +kernel
theorem dX3_fetch_79 : decode cX3_fetch 79 = .ok (.iaload, 1) := by decide +kernel
theorem dX3_fetch_80 : decode cX3_fetch 80 = .ok (.baload, 1) := by decide +kernel
theorem dX3_fetch_81 : decode cX3_fetch 81 = .ok (.ifCond .eq 17, 3) := by decide +kernel
theorem dX3_fetch_84 : decode cX3_fetch 84 = .ok (.aload_n 0, 1) := by decide +kernel
theorem dX3_fetch_85 : decode cX3_fetch 85 = .ok (.iload_n 2, 1) := by decide +kernel
theorem dX3_fetch_86 : decode cX3_fetch 86 = .ok (.aload_n 0, 1) := by decide +kernel
theorem dX3_fetch_87 : decode cX3_fetch 87 = .ok (.getfield 23, 3) := by decide +kernel
theorem dX3_fetch_90 : decode cX3_fetch 90 = .ok (.iload_n 1, 1) := by decide +kernel
theorem dX3_fetch_91 : decode cX3_fetch 91 = .ok (.iaload, 1) := by decide +kernel
theorem dX3_fetch_92 : decode cX3_fetch 92 = .ok (.invokevirtual 87, 3) := by decide +kernel
theorem dX3_fetch_95 : decode cX3_fetch 95 = .ok (.goto 18, 3) := by decide +kernel
theorem dX3_fetch_98 : decode cX3_fetch 98 = .ok (.iload_n 2, 1) := by decide +kernel
theorem dX3_fetch_99 : decode cX3_fetch 99 = .ok (.aload_n 0, 1) := by decide +kernel
theorem dX3_fetch_100 : decode cX3_fetch 100 = .ok (.getfield 23, 3) := by decide +kernel
theorem dX3_fetch_103 : decode cX3_fetch 103 = .ok (.iload_n 1, 1) := by decide +kernel
theorem dX3_fetch_104 : decode cX3_fetch 104 = .ok (.iaload, 1) := by decide +kernel
theorem dX3_fetch_105 : decode cX3_fetch 105 = .ok (.if_icmp .ne 7, 3) := by decide +kernel
theorem dX3_fetch_108 : decode cX3_fetch 108 = .ok (.iconst 1, 1) := by decide +kernel
theorem dX3_fetch_109 : decode cX3_fetch 109 = .ok (.goto 4, 3) := by decide +kernel
theorem dX3_fetch_112 : decode cX3_fetch 112 = .ok (.iconst 0, 1) := by decide +kernel
theorem dX3_fetch_113 : decode cX3_fetch 113 = .ok (.istore 4, 2) := by decide +kernel
theorem dX3_fetch_115 : decode cX3_fetch 115 = .ok (.iload 4, 2) := by decide +kernel
theorem dX3_fetch_117 : decode cX3_fetch 117 = .ok (.ifCond .ne 9, 3) := by decide +kernel
theorem dX3_fetch_120 : decode cX3_fetch 120 = .ok (.aload_n 0, 1) := by decide +kernel
theorem dX3_fetch_121 : decode cX3_fetch 121 = .ok (.iconst 2, 1) := by decide +kernel
theorem dX3_fetch_122 : decode cX3_fetch 122 = .ok (.invokevirtual 103, 3) := by decide +kernel
theorem dX3_fetch_125 : decode cX3_fetch 125 = .ok (.ireturn, 1) := by decide +kernel
theorem dX3_fetch_126 : decode cX3_fetch 126 = .ok (.aload_n 0, 1) := by decide +kernel
theorem dX3_fetch_127 : decode cX3_fetch 127 = .ok (.iload_n 1, 1) := by decide +kernel
theorem dX3_fetch_128 : decode cX3_fetch 128 = .ok (.invokevirtual 117, 3) := by decide +kernel
theorem dX3_fetch_131 : decode cX3_fetch 131 = .ok (.aload_n 0, 1) := by decide +kernel
theorem dX3_fetch_132 : decode cX3_fetch 132 = .ok (.getfield 35, 3) := by decide +kernel
theorem dX3_fetch_135 : decode cX3_fetch 135 = .ok (.iload_n 1, 1) := by decide +kernel
theorem dX3_fetch_136 : decode cX3_fetch 136 = .ok (.iaload, 1) := by decide +kernel
theorem dX3_fetch_137 : decode cX3_fetch 137 = .ok (.ireturn, 1) := by decide +kernel
set_option maxRecDepth 20000 in
theorem ggX3_proxy_X3_isBox : GoodIn wsX3_proxy wsX3_isBox := goodIn_r _ [12, 13, 14, 11, 15] (by decide +kernel) (by decide +kernel)
set_option maxRecDepth 20000 in
theorem gX3_proxy_X3_isBox : GoodIn wsX3_proxy (va_wsS RX3 107 yX3_isBox wsX3_isBox) := goodIn_app (goodIn_of _ (by decide +kernel)) ggX3_proxy_X3_isBox
set_option maxRecDepth 20000 in
theorem ggX3_proxy_X3_isPerson : GoodIn wsX3_proxy wsX3_isPerson := goodIn_r _ [18, 13, 14, 11, 15] (by decide +kernel) (by decide +kernel)
set_option maxRecDepth 20000 in
theorem gX3_proxy_X3_isPerson : GoodIn wsX3_proxy (va_wsS RX3 110 yX3_isPerson wsX3_isPerson) := goodIn_app (goodIn_of _ (by decide +kernel)) ggX3_proxy_X3_isPerson
set_option maxRecDepth 20000 in
theorem ggX3_proxy_X3_in : GoodIn wsX3_proxy wsX3_in := goodIn_r _ [15] (by decide +kernel) (by decide +kernel)
set_option maxRecDepth 20000 in
theorem gX3_proxy_X3_in : GoodIn wsX3_proxy (va_wsS RX3 69 yX3_in wsX3_in) := goodIn_app (goodIn_of _ (by decide +kernel)) ggX3_proxy_X3_in
set_option maxRecDepth 20000 in
theorem ggX3_proxy_X3_fails : GoodIn wsX3_proxy wsX3_fails := goodIn_r _ [22, 1, 28, 29, 30, 31, 32, 33, 34, 35, 36, 37, 38, 39, 40, 41, 42, 43, 44, 45, 46, 47, 48] (by decide +kernel) (by decide +kernel)
set_option maxRecDepth 20000 in
theorem gX3_proxy_X3_fails : GoodIn wsX3_proxy (wsV RX3 103 RX3 yX3_fails wsX3_fails) := goodIn_app (goodIn_of _ (by decide +kernel)) ggX3_proxy_X3_fails
set_option maxRecDepth 20000 in
theorem ggX3_proxy_X3_isRented : GoodIn wsX3_proxy wsX3_isRented := goodIn_r _ [26, 27, 28, 29, 30, 31, 32, 33, 34, 35, 36, 37, 38, 39, 40, 41, 42, 43, 44, 45, 46, 47, 48] (by decide +kernel) (by decide +kernel)
set_option maxRecDepth 20000 in
theorem gX3_proxy_X3_isRented : GoodIn wsX3_proxy (wsV RX3 80 RX3 yX3_isRented wsX3_isRented) := goodIn_app (goodIn_of _ (by decide +kernel)) ggX3_proxy_X3_isRented
theorem dX3_proxy_0 : decode cX3_proxy 0 = .ok (.aload_n 0, 1) := by decide +kernel
theorem dX3_proxy_1 : decode cX3_proxy 1 = .ok (.iconst 0, 1) := by decide +kernel
theorem dX3_proxy_2 : decode cX3_proxy 2 = .ok (.putfield 65, 3) := by decide +kernel
theorem dX3_proxy_5 : decode cX3_proxy 5 = .ok (.iload_n 1, 1) := by decide +kernel
theorem dX3_proxy_6 : decode cX3_proxy 6 = .ok (.invokestatic 107, 3) := by decide +kernel
theorem dX3_proxy_9 : decode cX3_proxy 9 = .ok (.ifCond .eq 31, 3) := by decide +kernel
theorem dX3_proxy_12 : decode cX3_proxy 12 = .ok (.iload_n 2, 1) := by decide +kernel
theorem dX3_proxy_13 : decode cX3_proxy 13 = .ok (.invokestatic 110, 3) := by decide +kernel
theorem dX3_proxy_16 : decode cX3_proxy 16 = .ok (.ifCond .eq 24, 3) := by decide +kernel
theorem dX3_proxy_19 : decode cX3_proxy 19 = .ok (.iload_n 3, 1) := by decide +kernel
theorem dX3_proxy_20 : decode cX3_proxy 20 = .ok (.iconst 0, 1) := by decide +kernel
theorem dX3_proxy_21 : decode cX3_proxy 21 = .ok (.ldc 106, 2) := by decide +kernel
theorem dX3_proxy_23 : decode cX3_proxy 23 = .ok (.invokestatic 69, 3) := by decide +kernel
theorem dX3_proxy_26 : decode cX3_proxy 26 = .ok (.ifCond .eq 14, 3) := by decide +kernel
theorem dX3_proxy_29 : decode cX3_proxy 29 = .ok (.iload 4, 2) := by decide +kernel
theorem dX3_proxy_31 : decode cX3_proxy 31 = .ok (.iload_n 3, 1) := by decide +kernel
theorem dX3_proxy_32 : decode cX3_proxy 32 = .ok (.ldc 106, 2) := by decide +kernel
theorem dX3_proxy_34 : decode cX3_proxy 34 = .ok (.invokestatic 69, 3) := by decide +kernel
theorem dX3_proxy_37 : decode cX3_proxy 37 = .ok (.ifCond .ne 9, 3) := by decide +kernel
theorem dX3_proxy_40 : decode cX3_proxy 40 = .ok (.aload_n 0, 1) := by decide +kernel
theorem dX3_proxy_41 : decode cX3_proxy 41 = .ok (.iconst 1, 1) := by decide +kernel
theorem dX3_proxy_42 : decode cX3_proxy 42 = .ok (.invokevirtual 103, 3) := by decide +kernel
theorem dX3_proxy_45 : decode cX3_proxy 45 = .ok (.ireturn, 1) := by decide +kernel
theorem dX3_proxy_46 : decode cX3_proxy 46 = .ok (.aload_n 0, 1) := by decide +kernel
theorem dX3_proxy_47 : decode cX3_proxy 47 = .ok (.iload_n 1, 1) := by decide +kernel
theorem dX3_proxy_48 : decode cX3_proxy 48 = .ok (.invokevirtual 80, 3) := by decide +kernel
theorem dX3_proxy_51 : decode cX3_proxy 51 = .ok (.ifCond .eq 37, 3) := by decide +kernel
theorem dX3_proxy_54 : decode cX3_proxy 54 = .ok (.aload_n 0, 1) := by decide +kernel
theorem dX3_proxy_55 : decode cX3_proxy 55 = .ok (.getfield 7, 3) := by decide +kernel
theorem dX3_proxy_58 : decode cX3_proxy 58 = .ok (.aload_n 0, 1) := by decide +kernel
theorem dX3_proxy_59 : decode cX3_proxy 59 = .ok (.getfield 23, 3) := by decide +kernel
theorem dX3_proxy_62 : decode cX3_proxy 62 = .ok (.iload_n 1, 1) := by decide +kernel
theorem dX3_proxy_63 : decode cX3_proxy 63 = .ok (.iaload, 1) := by decide +kernel
theorem dX3_proxy_64 : decode cX3_proxy 64 = .ok (.baload, 1) := by decide +kernel
theorem dX3_proxy_65 : decode cX3_proxy 65 = .ok (.ifCond .ne 23, 3) := by decide +kernel
theorem dX3_proxy_68 : decode cX3_proxy 68 = .ok (.iload_n 2, 1) := by decide +kernel
theorem dX3_proxy_69 : decode cX3_proxy 69 = .ok (.aload_n 0, 1) := by decide +kernel
theorem dX3_proxy_70 : decode cX3_proxy 70 = .ok (.getfield 23, 3) := by decide +kernel
theorem dX3_proxy_73 : decode cX3_proxy 73 = .ok (.iload_n 1, 1) := by decide +kernel
theorem dX3_proxy_74 : decode cX3_proxy 74 = .ok (.iaload, 1) := by decide +kernel
theorem dX3_proxy_75 : decode cX3_proxy 75 = .ok (.if_icmp .eq 13, 3) := by decide +kernel
theorem dX3_proxy_78 : decode cX3_proxy 78 = .ok (.aload_n 0, 1) := by decide +kernel
theorem dX3_proxy_79 : decode cX3_proxy 79 = .ok (.getfield 38, 3) := by decide +kernel
theorem dX3_proxy_82 : decode cX3_proxy 82 = .ok (.iload_n 1, 1) := by decide +kernel
theorem dX3_proxy_83 : decode cX3_proxy 83 = .ok (.iaload, 1) := by decide +kernel
theorem dX3_proxy_84 : decode cX3_proxy 84 = .ok (.iconst 5, 1) := by decide +kernel
theorem dX3_proxy_85 : decode cX3_proxy 85 = .ok (.if_icmp .ne 9, 3) := by decide +kernel
theorem dX3_proxy_88 : decode cX3_proxy 88 = .ok (.aload_n 0, 1) := by decide +kernel
theorem dX3_proxy_89 : decode cX3_proxy 89 = .ok (.iconst 2, 1) := by decide +kernel
theorem dX3_proxy_90 : decode cX3_proxy 90 = .ok (.invokevirtual 103, 3) := by decide +kernel
theorem dX3_proxy_93 : decode cX3_proxy 93 = .ok (.ireturn, 1) := by decide +kernel
theorem dX3_proxy_94 : decode cX3_proxy 94 = .ok (.iconst 5, 1) := by decide +kernel
theorem dX3_proxy_95 : decode cX3_proxy 95 = .ok (.iload_n 1, 1) := by decide +kernel
theorem dX3_proxy_96 : decode cX3_proxy 96 = .ok (.imul, 1) := by decide +kernel
theorem dX3_proxy_97 : decode cX3_proxy 97 = .ok (.aload_n 0, 1) := by decide +kernel
theorem dX3_proxy_98 : decode cX3_proxy 98 = .ok (.getfield 38, 3) := by decide +kernel
theorem dX3_proxy_101 : decode cX3_proxy 101 = .ok (.iload_n 1, 1) := by decide +kernel
theorem dX3_proxy_102 : decode cX3_proxy 102 = .ok (.iaload, 1) := by decide +kernel
theorem dX3_proxy_103 : decode cX3_proxy 103 = .ok (.iadd, 1) := by decide +kernel
theorem dX3_proxy_104 : decode cX3_proxy 104 = .ok (.istore 5, 2) := by decide +kernel
theorem dX3_proxy_106 : decode cX3_proxy 106 = .ok (.aload_n 0, 1) := by decide +kernel
theorem dX3_proxy_107 : decode cX3_proxy 107 = .ok (.getfield 41, 3) := by decide +kernel
theorem dX3_proxy_110 : decode cX3_proxy 110 = .ok (.iload 5, 2) := by decide +kernel
theorem dX3_proxy_112 : decode cX3_proxy 112 = .ok (.iload_n 2, 1) := by decide +kernel
theorem dX3_proxy_113 : decode cX3_proxy 113 = .ok (.iastore, 1) := by decide +kernel
theorem dX3_proxy_114 : decode cX3_proxy 114 = .ok (.aload_n 0, 1) := by decide +kernel
theorem dX3_proxy_115 : decode cX3_proxy 115 = .ok (.getfield 44, 3) := by decide +kernel
theorem dX3_proxy_118 : decode cX3_proxy 118 = .ok (.iload 5, 2) := by decide +kernel
theorem dX3_proxy_120 : decode cX3_proxy 120 = .ok (.iload_n 3, 1) := by decide +kernel
theorem dX3_proxy_121 : decode cX3_proxy 121 = .ok (.iastore, 1) := by decide +kernel
theorem dX3_proxy_122 : decode cX3_proxy 122 = .ok (.aload_n 0, 1) := by decide +kernel
theorem dX3_proxy_123 : decode cX3_proxy 123 = .ok (.getfield 47, 3) := by decide +kernel
theorem dX3_proxy_126 : decode cX3_proxy 126 = .ok (.iload 5, 2) := by decide +kernel
theorem dX3_proxy_128 : decode cX3_proxy 128 = .ok (.iload 4, 2) := by decide +kernel
theorem dX3_proxy_130 : decode cX3_proxy 130 = .ok (.iastore, 1) := by decide +kernel
theorem dX3_proxy_131 : decode cX3_proxy 131 = .ok (.aload_n 0, 1) := by decide +kernel
theorem dX3_proxy_132 : decode cX3_proxy 132 = .ok (.getfield 38, 3) := by decide +kernel
theorem dX3_proxy_135 : decode cX3_proxy 135 = .ok (.iload_n 1, 1) := by decide +kernel
theorem dX3_proxy_136 : decode cX3_proxy 136 = .ok (.dup2, 1) := by decide +kernel
theorem dX3_proxy_137 : decode cX3_proxy 137 = .ok (.iaload, 1) := by decide +kernel
theorem dX3_proxy_138 : decode cX3_proxy 138 = .ok (.iconst 1, 1) := by decide +kernel
theorem dX3_proxy_139 : decode cX3_proxy 139 = .ok (.iadd, 1) := by decide +kernel
theorem dX3_proxy_140 : decode cX3_proxy 140 = .ok (.iastore, 1) := by decide +kernel
theorem dX3_proxy_141 : decode cX3_proxy 141 = .ok (.aload_n 0, 1) := by decide +kernel
theorem dX3_proxy_142 : decode cX3_proxy 142 = .ok (.getfield 38, 3) := by decide +kernel
theorem dX3_proxy_145 : decode cX3_proxy 145 = .ok (.iload_n 1, 1) := by decide +kernel
theorem dX3_proxy_146 : decode cX3_proxy 146 = .ok (.iaload, 1) := by decide +kernel
theorem dX3_proxy_147 : decode cX3_proxy 147 = .ok (.ireturn, 1) := by decide +kernel
set_option maxRecDepth 20000 in
theorem ggX3_heir_X3_isPerson : GoodIn wsX3_heir wsX3_isPerson := goodIn_r _ [6, 7, 8, 5, 9] (by decide +kernel) (by decide +kernel)
set_option maxRecDepth 20000 in
theorem gX3_heir_X3_isPerson : GoodIn wsX3_heir (va_wsS RX3 110 yX3_isPerson wsX3_isPerson) := goodIn_app (goodIn_of _ (by decide +kernel)) ggX3_heir_X3_isPerson
set_option maxRecDepth 20000 in
theorem ggX3_heir_X3_isHeir : GoodIn wsX3_heir wsX3_isHeir := goodIn_r _ [13, 2, 14, 15, 16, 17, 18, 19, 20, 21, 22, 23, 24, 25, 26, 27, 28, 29, 30, 31, 32, 33, 34] (by decide +kernel) (by decide +kernel)
set_option maxRecDepth 20000 in
theorem gX3_heir_X3_isHeir : GoodIn wsX3_heir (wsV RX3 87 RX3 yX3_isHeir wsX3_isHeir) := goodIn_app (goodIn_of _ (by decide +kernel)) ggX3_heir_X3_isHeir
theorem dX3_heir_0 : decode cX3_heir 0 = .ok (.aload_n 0, 1) := by decide +kernel
theorem dX3_heir_1 : decode cX3_heir 1 = .ok (.iload_n 1, 1) := by decide +kernel
theorem dX3_heir_2 : decode cX3_heir 2 = .ok (.invokestatic 110, 3) := by decide +kernel
theorem dX3_heir_5 : decode cX3_heir 5 = .ok (.ifCond .eq 19, 3) := by decide +kernel
theorem dX3_heir_8 : decode cX3_heir 8 = .ok (.iload_n 2, 1) := by decide +kernel
theorem dX3_heir_9 : decode cX3_heir 9 = .ok (.invokestatic 110, 3) := by decide +kernel
theorem dX3_heir_12 : decode cX3_heir 12 = .ok (.ifCond .eq 12, 3) := by decide +kernel
theorem dX3_heir_15 : decode cX3_heir 15 = .ok (.iload_n 1, 1) := by decide +kernel
theorem dX3_heir_16 : decode cX3_heir 16 = .ok (.iload_n 2, 1) := by decide +kernel
theorem dX3_heir_17 : decode cX3_heir 17 = .ok (.if_icmp .eq 7, 3) := by decide +kernel
theorem dX3_heir_20 : decode cX3_heir 20 = .ok (.iconst 0, 1) := by decide +kernel
theorem dX3_heir_21 : decode cX3_heir 21 = .ok (.goto 4, 3) := by decide +kernel
theorem dX3_heir_24 : decode cX3_heir 24 = .ok (.iconst 1, 1) := by decide +kernel
theorem dX3_heir_25 : decode cX3_heir 25 = .ok (.putfield 65, 3) := by decide +kernel
theorem dX3_heir_28 : decode cX3_heir 28 = .ok (.aload_n 0, 1) := by decide +kernel
theorem dX3_heir_29 : decode cX3_heir 29 = .ok (.getfield 65, 3) := by decide +kernel
theorem dX3_heir_32 : decode cX3_heir 32 = .ok (.ifCond .le 5, 3) := by decide +kernel
theorem dX3_heir_35 : decode cX3_heir 35 = .ok (.iconst 0, 1) := by decide +kernel
theorem dX3_heir_36 : decode cX3_heir 36 = .ok (.ireturn, 1) := by decide +kernel
theorem dX3_heir_37 : decode cX3_heir 37 = .ok (.aload_n 0, 1) := by decide +kernel
theorem dX3_heir_38 : decode cX3_heir 38 = .ok (.iload_n 2, 1) := by decide +kernel
theorem dX3_heir_39 : decode cX3_heir 39 = .ok (.iload_n 1, 1) := by decide +kernel
theorem dX3_heir_40 : decode cX3_heir 40 = .ok (.invokevirtual 87, 3) := by decide +kernel
theorem dX3_heir_43 : decode cX3_heir 43 = .ok (.istore 4, 2) := by decide +kernel
theorem dX3_heir_45 : decode cX3_heir 45 = .ok (.aload_n 0, 1) := by decide +kernel
theorem dX3_heir_46 : decode cX3_heir 46 = .ok (.getfield 13, 3) := by decide +kernel
theorem dX3_heir_49 : decode cX3_heir 49 = .ok (.iload_n 1, 1) := by decide +kernel
theorem dX3_heir_50 : decode cX3_heir 50 = .ok (.iload_n 3, 1) := by decide +kernel
theorem dX3_heir_51 : decode cX3_heir 51 = .ok (.ifCond .eq 16, 3) := by decide +kernel
theorem dX3_heir_54 : decode cX3_heir 54 = .ok (.aload_n 0, 1) := by decide +kernel
theorem dX3_heir_55 : decode cX3_heir 55 = .ok (.getfield 13, 3) := by decide +kernel
theorem dX3_heir_58 : decode cX3_heir 58 = .ok (.iload_n 1, 1) := by decide +kernel
theorem dX3_heir_59 : decode cX3_heir 59 = .ok (.iaload, 1) := by decide +kernel
theorem dX3_heir_60 : decode cX3_heir 60 = .ok (.iconst 1, 1) := by decide +kernel
theorem dX3_heir_61 : decode cX3_heir 61 = .ok (.iload_n 2, 1) := by decide +kernel
theorem dX3_heir_62 : decode cX3_heir 62 = .ok (.ishl, 1) := by decide +kernel
theorem dX3_heir_63 : decode cX3_heir 63 = .ok (.ior, 1) := by decide +kernel
theorem dX3_heir_64 : decode cX3_heir 64 = .ok (.goto 15, 3) := by decide +kernel
theorem dX3_heir_67 : decode cX3_heir 67 = .ok (.aload_n 0, 1) := by decide +kernel
theorem dX3_heir_68 : decode cX3_heir 68 = .ok (.getfield 13, 3) := by decide +kernel
theorem dX3_heir_71 : decode cX3_heir 71 = .ok (.iload_n 1, 1) := by decide +kernel
theorem dX3_heir_72 : decode cX3_heir 72 = .ok (.iaload, 1) := by decide +kernel
theorem dX3_heir_73 : decode cX3_heir 73 = .ok (.iconst 1, 1) := by decide +kernel
theorem dX3_heir_74 : decode cX3_heir 74 = .ok (.iload_n 2, 1) := by decide +kernel
theorem dX3_heir_75 : decode cX3_heir 75 = .ok (.ishl, 1) := by decide +kernel
theorem dX3_heir_76 : decode cX3_heir 76 = .ok (.iconst (-1), 1) := by decide +kernel
theorem dX3_heir_77 : decode cX3_heir 77 = .ok (.ixor, 1) := by decide +kernel
theorem dX3_heir_78 : decode cX3_heir 78 = .ok (.iand, 1) := by decide +kernel
theorem dX3_heir_79 : decode cX3_heir 79 = .ok (.iastore, 1) := by decide +kernel
theorem dX3_heir_80 : decode cX3_heir 80 = .ok (.iload 4, 2) := by decide +kernel
theorem dX3_heir_82 : decode cX3_heir 82 = .ok (.ireturn, 1) := by decide +kernel
set_option maxRecDepth 20000 in
theorem ggX3_die_X3_isPerson : GoodIn wsX3_die wsX3_isPerson := goodIn_r _ [9, 10, 11, 8, 12] (by decide +kernel) (by decide +kernel)
set_option maxRecDepth 20000 in
theorem gX3_die_X3_isPerson : GoodIn wsX3_die (va_wsS RX3 110 yX3_isPerson wsX3_isPerson) := goodIn_app (goodIn_of _ (by decide +kernel)) ggX3_die_X3_isPerson
set_option maxRecDepth 20000 in
theorem ggX3_die_X3_fails : GoodIn wsX3_die wsX3_fails := goodIn_r _ [16, 1, 21, 22, 23, 24, 25, 26, 27, 28, 29, 30, 31, 32, 33, 34, 35, 36, 37, 38, 39, 40, 41] (by decide +kernel) (by decide +kernel)
set_option maxRecDepth 20000 in
theorem gX3_die_X3_fails : GoodIn wsX3_die (wsV RX3 103 RX3 yX3_fails wsX3_fails) := goodIn_app (goodIn_of _ (by decide +kernel)) ggX3_die_X3_fails
set_option maxRecDepth 20000 in
theorem ggX3_die_X3_isRented : GoodIn wsX3_die wsX3_isRented := goodIn_r _ [20, 3, 21, 22, 23, 24, 25, 26, 27, 28, 29, 30, 31, 32, 33, 34, 35, 36, 37, 38, 39, 40, 41] (by decide +kernel) (by decide +kernel)
set_option maxRecDepth 20000 in
theorem gX3_die_X3_isRented : GoodIn wsX3_die (wsV RX3 80 RX3 yX3_isRented wsX3_isRented) := goodIn_app (goodIn_of _ (by decide +kernel)) ggX3_die_X3_isRented
theorem dX3_die_0 : decode cX3_die 0 = .ok (.aload_n 0, 1) := by decide +kernel
theorem dX3_die_1 : decode cX3_die 1 = .ok (.iconst 0, 1) := by decide +kernel
theorem dX3_die_2 : decode cX3_die 2 = .ok (.putfield 65, 3) := by decide +kernel
theorem dX3_die_5 : decode cX3_die 5 = .ok (.iload_n 1, 1) := by decide +kernel
theorem dX3_die_6 : decode cX3_die 6 = .ok (.invokestatic 110, 3) := by decide +kernel
theorem dX3_die_9 : decode cX3_die 9 = .ok (.ifCond .ne 9, 3) := by decide +kernel
theorem dX3_die_12 : decode cX3_die 12 = .ok (.aload_n 0, 1) := by decide +kernel
theorem dX3_die_13 : decode cX3_die 13 = .ok (.iconst 1, 1) := by decide +kernel
theorem dX3_die_14 : decode cX3_die 14 = .ok (.invokevirtual 103, 3) := by decide +kernel
theorem dX3_die_17 : decode cX3_die 17 = .ok (.ireturn, 1) := by decide +kernel
theorem dX3_die_18 : decode cX3_die 18 = .ok (.aload_n 0, 1) := by decide +kernel
theorem dX3_die_19 : decode cX3_die 19 = .ok (.getfield 7, 3) := by decide +kernel
theorem dX3_die_22 : decode cX3_die 22 = .ok (.iload_n 1, 1) := by decide +kernel
theorem dX3_die_23 : decode cX3_die 23 = .ok (.baload, 1) := by decide +kernel
theorem dX3_die_24 : decode cX3_die 24 = .ok (.ifCond .eq 9, 3) := by decide +kernel
theorem dX3_die_27 : decode cX3_die 27 = .ok (.aload_n 0, 1) := by decide +kernel
theorem dX3_die_28 : decode cX3_die 28 = .ok (.iconst 2, 1) := by decide +kernel
theorem dX3_die_29 : decode cX3_die 29 = .ok (.invokevirtual 103, 3) := by decide +kernel
theorem dX3_die_32 : decode cX3_die 32 = .ok (.ireturn, 1) := by decide +kernel
theorem dX3_die_33 : decode cX3_die 33 = .ok (.aload_n 0, 1) := by decide +kernel
theorem dX3_die_34 : decode cX3_die 34 = .ok (.getfield 7, 3) := by decide +kernel
theorem dX3_die_37 : decode cX3_die 37 = .ok (.iload_n 1, 1) := by decide +kernel
theorem dX3_die_38 : decode cX3_die 38 = .ok (.iconst 1, 1) := by decide +kernel
theorem dX3_die_39 : decode cX3_die 39 = .ok (.bastore, 1) := by decide +kernel
theorem dX3_die_40 : decode cX3_die 40 = .ok (.iconst 0, 1) := by decide +kernel
theorem dX3_die_41 : decode cX3_die 41 = .ok (.istore_n 2, 1) := by decide +kernel
theorem dX3_die_42 : decode cX3_die 42 = .ok (.iconst 0, 1) := by decide +kernel
theorem dX3_die_43 : decode cX3_die 43 = .ok (.istore_n 3, 1) := by decide +kernel
theorem dX3_die_44 : decode cX3_die 44 = .ok (.iload_n 3, 1) := by decide +kernel
theorem dX3_die_45 : decode cX3_die 45 = .ok (.bipush 8, 2) := by decide +kernel
theorem dX3_die_47 : decode cX3_die 47 = .ok (.if_icmp .ge 77, 3) := by decide +kernel
theorem dX3_die_50 : decode cX3_die 50 = .ok (.aload_n 0, 1) := by decide +kernel
theorem dX3_die_51 : decode cX3_die 51 = .ok (.getfield 20, 3) := by decide +kernel
theorem dX3_die_54 : decode cX3_die 54 = .ok (.iload_n 3, 1) := by decide +kernel
theorem dX3_die_55 : decode cX3_die 55 = .ok (.iaload, 1) := by decide +kernel
theorem dX3_die_56 : decode cX3_die 56 = .ok (.ifCond .eq 17, 3) := by decide +kernel
theorem dX3_die_59 : decode cX3_die 59 = .ok (.aload_n 0, 1) := by decide +kernel
theorem dX3_die_60 : decode cX3_die 60 = .ok (.getfield 23, 3) := by decide +kernel
theorem dX3_die_63 : decode cX3_die 63 = .ok (.iload_n 3, 1) := by decide +kernel
theorem dX3_die_64 : decode cX3_die 64 = .ok (.iaload, 1) := by decide +kernel
theorem dX3_die_65 : decode cX3_die 65 = .ok (.iload_n 1, 1) := by decide +kernel
theorem dX3_die_66 : decode cX3_die 66 = .ok (.if_icmp .ne 7, 3) := by decide +kernel
theorem dX3_die_69 : decode cX3_die 69 = .ok (.iconst 1, 1) := by decide +kernel
theorem dX3_die_70 : decode cX3_die 70 = .ok (.goto 4, 3) := by decide +kernel
theorem dX3_die_73 : decode cX3_die 73 = .ok (.iconst 0, 1) := by decide +kernel
theorem dX3_die_74 : decode cX3_die 74 = .ok (.istore 4, 2) := by decide +kernel
theorem dX3_die_76 : decode cX3_die 76 = .ok (.aload_n 0, 1) := by decide +kernel
theorem dX3_die_77 : decode cX3_die 77 = .ok (.getfield 38, 3) := by decide +kernel
theorem dX3_die_80 : decode cX3_die 80 = .ok (.iload_n 3, 1) := by decide +kernel
theorem dX3_die_81 : decode cX3_die 81 = .ok (.iload 4, 2) := by decide +kernel
theorem dX3_die_83 : decode cX3_die 83 = .ok (.ifCond .eq 7, 3) := by decide +kernel
theorem dX3_die_86 : decode cX3_die 86 = .ok (.iconst 0, 1) := by decide +kernel
theorem dX3_die_87 : decode cX3_die 87 = .ok (.goto 9, 3) := by decide +kernel
theorem dX3_die_90 : decode cX3_die 90 = .ok (.aload_n 0, 1) := by decide +kernel
theorem dX3_die_91 : decode cX3_die 91 = .ok (.getfield 38, 3) := by decide +kernel
theorem dX3_die_94 : decode cX3_die 94 = .ok (.iload_n 3, 1) := by decide +kernel
theorem dX3_die_95 : decode cX3_die 95 = .ok (.iaload, 1) := by decide +kernel
theorem dX3_die_96 : decode cX3_die 96 = .ok (.iastore, 1) := by decide +kernel
theorem dX3_die_97 : decode cX3_die 97 = .ok (.iload_n 2, 1) := by decide +kernel
theorem dX3_die_98 : decode cX3_die 98 = .ok (.iload 4, 2) := by decide +kernel
theorem dX3_die_100 : decode cX3_die 100 = .ok (.ifCond .eq 15, 3) := by decide +kernel
theorem dX3_die_103 : decode cX3_die 103 = .ok (.aload_n 0, 1) := by decide +kernel
theorem dX3_die_104 : decode cX3_die 104 = .ok (.iload_n 3, 1) := by decide +kernel
theorem dX3_die_105 : decode cX3_die 105 = .ok (.invokevirtual 80, 3) := by decide +kernel
theorem dX3_die_108 : decode cX3_die 108 = .ok (.ifCond .eq 7, 3) := by decide +kernel
theorem dX3_die_111 : decode cX3_die 111 = .ok (.iconst 1, 1) := by decide +kernel
theorem dX3_die_112 : decode cX3_die 112 = .ok (.goto 4, 3) := by decide +kernel
theorem dX3_die_115 : decode cX3_die 115 = .ok (.iconst 0, 1) := by decide +kernel
theorem dX3_die_116 : decode cX3_die 116 = .ok (.iadd, 1) := by decide +kernel
theorem dX3_die_117 : decode cX3_die 117 = .ok (.istore_n 2, 1) := by decide +kernel
theorem dX3_die_118 : decode cX3_die 118 = .ok (.iinc 3 1, 3) := by decide +kernel
theorem dX3_die_121 : decode cX3_die 121 = .ok (.goto (-77), 3) := by decide +kernel
theorem dX3_die_124 : decode cX3_die 124 = .ok (.iload_n 2, 1) := by decide +kernel
theorem dX3_die_125 : decode cX3_die 125 = .ok (.ireturn, 1) := by decide +kernel
set_option maxRecDepth 20000 in
theorem ggX3_order_X3_isBox : GoodIn wsX3_order wsX3_isBox := goodIn_r _ [12, 13, 14, 11, 15] (by decide +kernel) (by decide +kernel)
set_option maxRecDepth 20000 in
theorem gX3_order_X3_isBox : GoodIn wsX3_order (va_wsS RX3 107 yX3_isBox wsX3_isBox) := goodIn_app (goodIn_of _ (by decide +kernel)) ggX3_order_X3_isBox
set_option maxRecDepth 20000 in
theorem ggX3_order_X3_in : GoodIn wsX3_order wsX3_in := goodIn_r _ [15] (by decide +kernel) (by decide +kernel)
set_option maxRecDepth 20000 in
theorem gX3_order_X3_in : GoodIn wsX3_order (va_wsS RX3 69 yX3_in wsX3_in) := goodIn_app (goodIn_of _ (by decide +kernel)) ggX3_order_X3_in
set_option maxRecDepth 20000 in
theorem ggX3_order_X3_isPerson : GoodIn wsX3_order wsX3_isPerson := goodIn_r _ [18, 13, 14, 11, 15] (by decide +kernel) (by decide +kernel)
set_option maxRecDepth 20000 in
theorem gX3_order_X3_isPerson : GoodIn wsX3_order (va_wsS RX3 110 yX3_isPerson wsX3_isPerson) := goodIn_app (goodIn_of _ (by decide +kernel)) ggX3_order_X3_isPerson
set_option maxRecDepth 20000 in
theorem ggX3_order_X3_fails : GoodIn wsX3_order wsX3_fails := goodIn_r _ [22, 1, 23, 24, 25, 26, 27, 28, 29, 30, 31, 32, 33, 34, 35, 36, 37, 38, 39, 40, 41, 42, 43] (by decide +kernel) (by decide +kernel)
set_option maxRecDepth 20000 in
theorem gX3_order_X3_fails : GoodIn wsX3_order (wsV RX3 103 RX3 yX3_fails wsX3_fails) := goodIn_app (goodIn_of _ (by decide +kernel)) ggX3_order_X3_fails
theorem dX3_order_0 : decode cX3_order 0 = .ok (.aload_n 0, 1) := by decide +kernel
theorem dX3_order_1 : decode cX3_order 1 = .ok (.iconst 0, 1) := by decide +kernel
theorem dX3_order_2 : decode cX3_order 2 = .ok (.putfield 65, 3) := by decide +kernel
theorem dX3_order_5 : decode cX3_order 5 = .ok (.iload_n 1, 1) := by decide +kernel
theorem dX3_order_6 : decode cX3_order 6 = .ok (.invokestatic 107, 3) := by decide +kernel
theorem dX3_order_9 : decode cX3_order 9 = .ok (.ifCond .eq 34, 3) := by decide +kernel
theorem dX3_order_12 : decode cX3_order 12 = .ok (.iload_n 2, 1) := by decide +kernel
theorem dX3_order_13 : decode cX3_order 13 = .ok (.iconst 0, 1) := by decide +kernel
theorem dX3_order_14 : decode cX3_order 14 = .ok (.iconst 1, 1) := by decide +kernel
theorem dX3_order_15 : decode cX3_order 15 = .ok (.invokestatic 69, 3) := by decide +kernel
theorem dX3_order_18 : decode cX3_order 18 = .ok (.ifCond .eq 25, 3) := by decide +kernel
theorem dX3_order_21 : decode cX3_order 21 = .ok (.iload_n 3, 1) := by decide +kernel
theorem dX3_order_22 : decode cX3_order 22 = .ok (.iconst 0, 1) := by decide +kernel
theorem dX3_order_23 : decode cX3_order 23 = .ok (.iconst 2, 1) := by decide +kernel
theorem dX3_order_24 : decode cX3_order 24 = .ok (.invokestatic 69, 3) := by decide +kernel
theorem dX3_order_27 : decode cX3_order 27 = .ok (.ifCond .eq 16, 3) := by decide +kernel
theorem dX3_order_30 : decode cX3_order 30 = .ok (.iload_n 3, 1) := by decide +kernel
theorem dX3_order_31 : decode cX3_order 31 = .ok (.iconst 1, 1) := by decide +kernel
theorem dX3_order_32 : decode cX3_order 32 = .ok (.if_icmp .ne 17, 3) := by decide +kernel
theorem dX3_order_35 : decode cX3_order 35 = .ok (.iload 4, 2) := by decide +kernel
theorem dX3_order_37 : decode cX3_order 37 = .ok (.invokestatic 110, 3) := by decide +kernel
theorem dX3_order_40 : decode cX3_order 40 = .ok (.ifCond .ne 9, 3) := by decide +kernel
theorem dX3_order_43 : decode cX3_order 43 = .ok (.aload_n 0, 1) := by decide +kernel
theorem dX3_order_44 : decode cX3_order 44 = .ok (.iconst 1, 1) := by decide +kernel
theorem dX3_order_45 : decode cX3_order 45 = .ok (.invokevirtual 103, 3) := by decide +kernel
theorem dX3_order_48 : decode cX3_order 48 = .ok (.ireturn, 1) := by decide +kernel
theorem dX3_order_49 : decode cX3_order 49 = .ok (.aload_n 0, 1) := by decide +kernel
theorem dX3_order_50 : decode cX3_order 50 = .ok (.getfield 20, 3) := by decide +kernel
theorem dX3_order_53 : decode cX3_order 53 = .ok (.iload_n 1, 1) := by decide +kernel
theorem dX3_order_54 : decode cX3_order 54 = .ok (.iaload, 1) := by decide +kernel
theorem dX3_order_55 : decode cX3_order 55 = .ok (.ifCond .eq 12, 3) := by decide +kernel
theorem dX3_order_58 : decode cX3_order 58 = .ok (.aload_n 0, 1) := by decide +kernel
theorem dX3_order_59 : decode cX3_order 59 = .ok (.getfield 84, 3) := by decide +kernel
theorem dX3_order_62 : decode cX3_order 62 = .ok (.bipush 30, 2) := by decide +kernel
theorem dX3_order_64 : decode cX3_order 64 = .ok (.if_icmp .ne 9, 3) := by decide +kernel
theorem dX3_order_67 : decode cX3_order 67 = .ok (.aload_n 0, 1) := by decide +kernel
theorem dX3_order_68 : decode cX3_order 68 = .ok (.iconst 2, 1) := by decide +kernel
theorem dX3_order_69 : decode cX3_order 69 = .ok (.invokevirtual 103, 3) := by decide +kernel
theorem dX3_order_72 : decode cX3_order 72 = .ok (.ireturn, 1) := by decide +kernel
theorem dX3_order_73 : decode cX3_order 73 = .ok (.aload_n 0, 1) := by decide +kernel
theorem dX3_order_74 : decode cX3_order 74 = .ok (.getfield 50, 3) := by decide +kernel
theorem dX3_order_77 : decode cX3_order 77 = .ok (.aload_n 0, 1) := by decide +kernel
theorem dX3_order_78 : decode cX3_order 78 = .ok (.getfield 84, 3) := by decide +kernel
theorem dX3_order_81 : decode cX3_order 81 = .ok (.iload_n 1, 1) := by decide +kernel
theorem dX3_order_82 : decode cX3_order 82 = .ok (.iastore, 1) := by decide +kernel
theorem dX3_order_83 : decode cX3_order 83 = .ok (.aload_n 0, 1) := by decide +kernel
theorem dX3_order_84 : decode cX3_order 84 = .ok (.getfield 53, 3) := by decide +kernel
theorem dX3_order_87 : decode cX3_order 87 = .ok (.aload_n 0, 1) := by decide +kernel
theorem dX3_order_88 : decode cX3_order 88 = .ok (.getfield 84, 3) := by decide +kernel
theorem dX3_order_91 : decode cX3_order 91 = .ok (.iload_n 2, 1) := by decide +kernel
theorem dX3_order_92 : decode cX3_order 92 = .ok (.iastore, 1) := by decide +kernel
theorem dX3_order_93 : decode cX3_order 93 = .ok (.aload_n 0, 1) := by decide +kernel
theorem dX3_order_94 : decode cX3_order 94 = .ok (.getfield 56, 3) := by decide +kernel
theorem dX3_order_97 : decode cX3_order 97 = .ok (.aload_n 0, 1) := by decide +kernel
theorem dX3_order_98 : decode cX3_order 98 = .ok (.getfield 84, 3) := by decide +kernel
theorem dX3_order_101 : decode cX3_order 101 = .ok (.iload_n 3, 1) := by decide +kernel
theorem dX3_order_102 : decode cX3_order 102 = .ok (.iastore, 1) := by decide +kernel
theorem dX3_order_103 : decode cX3_order 103 = .ok (.aload_n 0, 1) := by decide +kernel
theorem dX3_order_104 : decode cX3_order 104 = .ok (.getfield 59, 3) := by decide +kernel
theorem dX3_order_107 : decode cX3_order 107 = .ok (.aload_n 0, 1) := by decide +kernel
theorem dX3_order_108 : decode cX3_order 108 = .ok (.getfield 84, 3) := by decide +kernel
theorem dX3_order_111 : decode cX3_order 111 = .ok (.iload 4, 2) := by decide +kernel
theorem dX3_order_113 : decode cX3_order 113 = .ok (.iastore, 1) := by decide +kernel
theorem dX3_order_114 : decode cX3_order 114 = .ok (.aload_n 0, 1) := by decide +kernel
theorem dX3_order_115 : decode cX3_order 115 = .ok (.getfield 62, 3) := by decide +kernel
theorem dX3_order_118 : decode cX3_order 118 = .ok (.aload_n 0, 1) := by decide +kernel
theorem dX3_order_119 : decode cX3_order 119 = .ok (.getfield 84, 3) := by decide +kernel
theorem dX3_order_122 : decode cX3_order 122 = .ok (.iconst 1, 1) := by decide +kernel
theorem dX3_order_123 : decode cX3_order 123 = .ok (.bastore, 1) := by decide +kernel
theorem dX3_order_124 : decode cX3_order 124 = .ok (.aload_n 0, 1) := by decide +kernel
theorem dX3_order_125 : decode cX3_order 125 = .ok (.dup, 1) := by decide +kernel
theorem dX3_order_126 : decode cX3_order 126 = .ok (.getfield 84, 3) := by decide +kernel
theorem dX3_order_129 : decode cX3_order 129 = .ok (.iconst 1, 1) := by decide +kernel
theorem dX3_order_130 : decode cX3_order 130 = .ok (.iadd, 1) := by decide +kernel
theorem dX3_order_131 : decode cX3_order 131 = .ok (.putfield 84, 3) := by decide +kernel
theorem dX3_order_134 : decode cX3_order 134 = .ok (.aload_n 0, 1) := by decide +kernel
theorem dX3_order_135 : decode cX3_order 135 = .ok (.getfield 84, 3) := by decide +kernel
theorem dX3_order_138 : decode cX3_order 138 = .ok (.iconst 1, 1) := by decide +kernel
theorem dX3_order_139 : decode cX3_order 139 = .ok (.isub, 1) := by decide +kernel
theorem dX3_order_140 : decode cX3_order 140 = .ok (.ireturn, 1) := by decide +kernel
set_option maxRecDepth 20000 in
theorem ggX3_lift_X3_in : GoodIn wsX3_lift wsX3_in := goodIn_r _ [8] (by decide +kernel) (by decide +kernel)
set_option maxRecDepth 20000 in
theorem gX3_lift_X3_in : GoodIn wsX3_lift (va_wsS RX3 69 yX3_in wsX3_in) := goodIn_app (goodIn_of _ (by decide +kernel)) ggX3_lift_X3_in
set_option maxRecDepth 20000 in
theorem ggX3_lift_X3_binds : GoodIn wsX3_lift wsX3_binds := goodIn_r _ [12, 1, 2, 4, 13, 14, 15, 16, 17, 18, 19, 20, 21, 22, 23, 24, 25, 26, 27, 28, 29, 30, 31, 32, 33, 34] (by decide +kernel) (by decide +kernel)
set_option maxRecDepth 20000 in
theorem gX3_lift_X3_binds : GoodIn wsX3_lift (wsV RX3 91 RX3 yX3_binds wsX3_binds) := goodIn_app (goodIn_of _ (by decide +kernel)) ggX3_lift_X3_binds
theorem dX3_lift_0 : decode cX3_lift 0 = .ok (.aload_n 0, 1) := by decide +kernel
theorem dX3_lift_1 : decode cX3_lift 1 = .ok (.iload_n 1, 1) := by decide +kernel
theorem dX3_lift_2 : decode cX3_lift 2 = .ok (.iconst 0, 1) := by decide +kernel
theorem dX3_lift_3 : decode cX3_lift 3 = .ok (.aload_n 0, 1) := by decide +kernel
theorem dX3_lift_4 : decode cX3_lift 4 = .ok (.getfield 84, 3) := by decide +kernel
theorem dX3_lift_7 : decode cX3_lift 7 = .ok (.iconst 1, 1) := by decide +kernel
theorem dX3_lift_8 : decode cX3_lift 8 = .ok (.isub, 1) := by decide +kernel
theorem dX3_lift_9 : decode cX3_lift 9 = .ok (.invokestatic 69, 3) := by decide +kernel
theorem dX3_lift_12 : decode cX3_lift 12 = .ok (.ifCond .ne 7, 3) := by decide +kernel
theorem dX3_lift_15 : decode cX3_lift 15 = .ok (.iconst 1, 1) := by decide +kernel
theorem dX3_lift_16 : decode cX3_lift 16 = .ok (.goto 17, 3) := by decide +kernel
theorem dX3_lift_19 : decode cX3_lift 19 = .ok (.aload_n 0, 1) := by decide +kernel
theorem dX3_lift_20 : decode cX3_lift 20 = .ok (.getfield 62, 3) := by decide +kernel
theorem dX3_lift_23 : decode cX3_lift 23 = .ok (.iload_n 1, 1) := by decide +kernel
theorem dX3_lift_24 : decode cX3_lift 24 = .ok (.baload, 1) := by decide +kernel
theorem dX3_lift_25 : decode cX3_lift 25 = .ok (.ifCond .eq 7, 3) := by decide +kernel
theorem dX3_lift_28 : decode cX3_lift 28 = .ok (.iconst 0, 1) := by decide +kernel
theorem dX3_lift_29 : decode cX3_lift 29 = .ok (.goto 4, 3) := by decide +kernel
theorem dX3_lift_32 : decode cX3_lift 32 = .ok (.iconst 2, 1) := by decide +kernel
theorem dX3_lift_33 : decode cX3_lift 33 = .ok (.putfield 65, 3) := by decide +kernel
theorem dX3_lift_36 : decode cX3_lift 36 = .ok (.aload_n 0, 1) := by decide +kernel
theorem dX3_lift_37 : decode cX3_lift 37 = .ok (.getfield 65, 3) := by decide +kernel
theorem dX3_lift_40 : decode cX3_lift 40 = .ok (.ifCond .le 5, 3) := by decide +kernel
theorem dX3_lift_43 : decode cX3_lift 43 = .ok (.iconst 0, 1) := by decide +kernel
theorem dX3_lift_44 : decode cX3_lift 44 = .ok (.ireturn, 1) := by decide +kernel
theorem dX3_lift_45 : decode cX3_lift 45 = .ok (.aload_n 0, 1) := by decide +kernel
theorem dX3_lift_46 : decode cX3_lift 46 = .ok (.aload_n 0, 1) := by decide +kernel
theorem dX3_lift_47 : decode cX3_lift 47 = .ok (.getfield 50, 3) := by decide +kernel
theorem dX3_lift_50 : decode cX3_lift 50 = .ok (.iload_n 1, 1) := by decide +kernel
theorem dX3_lift_51 : decode cX3_lift 51 = .ok (.iaload, 1) := by decide +kernel
theorem dX3_lift_52 : decode cX3_lift 52 = .ok (.invokevirtual 91, 3) := by decide +kernel
theorem dX3_lift_55 : decode cX3_lift 55 = .ok (.iload_n 1, 1) := by decide +kernel
theorem dX3_lift_56 : decode cX3_lift 56 = .ok (.if_icmp .ne 7, 3) := by decide +kernel
theorem dX3_lift_59 : decode cX3_lift 59 = .ok (.iconst 1, 1) := by decide +kernel
theorem dX3_lift_60 : decode cX3_lift 60 = .ok (.goto 4, 3) := by decide +kernel
theorem dX3_lift_63 : decode cX3_lift 63 = .ok (.iconst 0, 1) := by decide +kernel
theorem dX3_lift_64 : decode cX3_lift 64 = .ok (.istore_n 2, 1) := by decide +kernel
theorem dX3_lift_65 : decode cX3_lift 65 = .ok (.aload_n 0, 1) := by decide +kernel
theorem dX3_lift_66 : decode cX3_lift 66 = .ok (.getfield 62, 3) := by decide +kernel
theorem dX3_lift_69 : decode cX3_lift 69 = .ok (.iload_n 1, 1) := by decide +kernel
theorem dX3_lift_70 : decode cX3_lift 70 = .ok (.iconst 0, 1) := by decide +kernel
theorem dX3_lift_71 : decode cX3_lift 71 = .ok (.bastore, 1) := by decide +kernel
theorem dX3_lift_72 : decode cX3_lift 72 = .ok (.iload_n 2, 1) := by decide +kernel
theorem dX3_lift_73 : decode cX3_lift 73 = .ok (.ireturn, 1) := by decide +kernel
set_option maxRecDepth 20000 in
theorem ggX3_enter_X3_isBox : GoodIn wsX3_enter wsX3_isBox := goodIn_r _ [8, 9, 10, 7, 11] (by decide +kernel) (by decide +kernel)
set_option maxRecDepth 20000 in
theorem gX3_enter_X3_isBox : GoodIn wsX3_enter (va_wsS RX3 107 yX3_isBox wsX3_isBox) := goodIn_app (goodIn_of _ (by decide +kernel)) ggX3_enter_X3_isBox
set_option maxRecDepth 20000 in
theorem ggX3_enter_X3_isPerson : GoodIn wsX3_enter wsX3_isPerson := goodIn_r _ [14, 9, 10, 7, 11] (by decide +kernel) (by decide +kernel)
set_option maxRecDepth 20000 in
theorem gX3_enter_X3_isPerson : GoodIn wsX3_enter (va_wsS RX3 110 yX3_isPerson wsX3_isPerson) := goodIn_app (goodIn_of _ (by decide +kernel)) ggX3_enter_X3_isPerson
set_option maxRecDepth 20000 in
theorem ggX3_enter_X3_in : GoodIn wsX3_enter wsX3_in := goodIn_r _ [11] (by decide +kernel) (by decide +kernel)
set_option maxRecDepth 20000 in
theorem gX3_enter_X3_in : GoodIn wsX3_enter (va_wsS RX3 69 yX3_in wsX3_in) := goodIn_app (goodIn_of _ (by decide +kernel)) ggX3_enter_X3_in
set_option maxRecDepth 20000 in
theorem ggX3_enter_X3_fails : GoodIn wsX3_enter wsX3_fails := goodIn_r _ [18, 1, 67, 68, 69, 70, 71, 72, 73, 74, 75, 76, 77, 78, 79, 80, 81, 82, 83, 84, 85, 86, 87] (by decide +kernel) (by decide +kernel)
set_option maxRecDepth 20000 in
theorem gX3_enter_X3_fails : GoodIn wsX3_enter (wsV RX3 103 RX3 yX3_fails wsX3_fails) := goodIn_app (goodIn_of _ (by decide +kernel)) ggX3_enter_X3_fails
set_option maxRecDepth 20000 in
theorem ggX3_enter_X3_isRented : GoodIn wsX3_enter wsX3_isRented := goodIn_r _ [22, 23, 67, 68, 69, 70, 71, 72, 73, 74, 75, 76, 77, 78, 79, 80, 81, 82, 83, 84, 85, 86, 87] (by decide +kernel) (by decide +kernel)
set_option maxRecDepth 20000 in
theorem gX3_enter_X3_isRented : GoodIn wsX3_enter (wsV RX3 80 RX3 yX3_isRented wsX3_isRented) := goodIn_app (goodIn_of _ (by decide +kernel)) ggX3_enter_X3_isRented
set_option maxRecDepth 20000 in
theorem ggX3_enter_X3_right : GoodIn wsX3_enter wsX3_right := goodIn_r _ [27, 28, 29, 4, 19, 20, 21, 7, 22, 23, 30, 31, 32, 33, 34, 35, 36, 37, 38, 39, 40, 41, 42, 43, 44, 45, 46, 47, 48, 49, 50, 51, 52, 53, 54, 55, 56, 57, 58, 59, 60, 61, 62, 63, 64, 65, 66, 9, 10, 11, 67, 68, 69, 70, 71, 72, 73, 74, 75, 76, 77, 78, 79, 80, 81, 82, 83, 84, 85, 86, 87] (by decide +kernel) (by decide +kernel)
set_option maxRecDepth 20000 in
theorem gX3_enter_X3_right : GoodIn wsX3_enter (wsV RX3 113 RX3 yX3_right wsX3_right) := goodIn_app (goodIn_of _ (by decide +kernel)) ggX3_enter_X3_right
theorem dX3_enter_0 : decode cX3_enter 0 = .ok (.aload_n 0, 1) := by decide +kernel
theorem dX3_enter_1 : decode cX3_enter 1 = .ok (.iconst 0, 1) := by decide +kernel
theorem dX3_enter_2 : decode cX3_enter 2 = .ok (.putfield 65, 3) := by decide +kernel
theorem dX3_enter_5 : decode cX3_enter 5 = .ok (.iload_n 1, 1) := by decide +kernel
theorem dX3_enter_6 : decode cX3_enter 6 = .ok (.invokestatic 107, 3) := by decide +kernel
theorem dX3_enter_9 : decode cX3_enter 9 = .ok (.ifCond .eq 20, 3) := by decide +kernel
theorem dX3_enter_12 : decode cX3_enter 12 = .ok (.iload_n 2, 1) := by decide +kernel
theorem dX3_enter_13 : decode cX3_enter 13 = .ok (.invokestatic 110, 3) := by decide +kernel
theorem dX3_enter_16 : decode cX3_enter 16 = .ok (.ifCond .eq 13, 3) := by decide +kernel
theorem dX3_enter_19 : decode cX3_enter 19 = .ok (.iload_n 3, 1) := by decide +kernel
theorem dX3_enter_20 : decode cX3_enter 20 = .ok (.iconst 0, 1) := by decide +kernel
theorem dX3_enter_21 : decode cX3_enter 21 = .ok (.bipush 100, 2) := by decide +kernel
theorem dX3_enter_23 : decode cX3_enter 23 = .ok (.invokestatic 69, 3) := by decide +kernel
theorem dX3_enter_26 : decode cX3_enter 26 = .ok (.ifCond .ne 9, 3) := by decide +kernel
theorem dX3_enter_29 : decode cX3_enter 29 = .ok (.aload_n 0, 1) := by decide +kernel
theorem dX3_enter_30 : decode cX3_enter 30 = .ok (.iconst 1, 1) := by decide +kernel
theorem dX3_enter_31 : decode cX3_enter 31 = .ok (.invokevirtual 103, 3) := by decide +kernel
theorem dX3_enter_34 : decode cX3_enter 34 = .ok (.ireturn, 1) := by decide +kernel
theorem dX3_enter_35 : decode cX3_enter 35 = .ok (.aload_n 0, 1) := by decide +kernel
theorem dX3_enter_36 : decode cX3_enter 36 = .ok (.iload_n 1, 1) := by decide +kernel
theorem dX3_enter_37 : decode cX3_enter 37 = .ok (.invokevirtual 80, 3) := by decide +kernel
theorem dX3_enter_40 : decode cX3_enter 40 = .ok (.ifCond .ne 9, 3) := by decide +kernel
theorem dX3_enter_43 : decode cX3_enter 43 = .ok (.aload_n 0, 1) := by decide +kernel
theorem dX3_enter_44 : decode cX3_enter 44 = .ok (.iconst 2, 1) := by decide +kernel
theorem dX3_enter_45 : decode cX3_enter 45 = .ok (.invokevirtual 103, 3) := by decide +kernel
theorem dX3_enter_48 : decode cX3_enter 48 = .ok (.ireturn, 1) := by decide +kernel
theorem dX3_enter_49 : decode cX3_enter 49 = .ok (.aload_n 0, 1) := by decide +kernel
theorem dX3_enter_50 : decode cX3_enter 50 = .ok (.iload_n 1, 1) := by decide +kernel
theorem dX3_enter_51 : decode cX3_enter 51 = .ok (.iload_n 2, 1) := by decide +kernel
theorem dX3_enter_52 : decode cX3_enter 52 = .ok (.invokevirtual 113, 3) := by decide +kernel
theorem dX3_enter_55 : decode cX3_enter 55 = .ok (.istore 4, 2) := by decide +kernel
theorem dX3_enter_57 : decode cX3_enter 57 = .ok (.iload 4, 2) := by decide +kernel
theorem dX3_enter_59 : decode cX3_enter 59 = .ok (.iconst 3, 1) := by decide +kernel
theorem dX3_enter_60 : decode cX3_enter 60 = .ok (.if_icmp .eq 13, 3) := by decide +kernel
theorem dX3_enter_63 : decode cX3_enter 63 = .ok (.iload_n 3, 1) := by decide +kernel
theorem dX3_enter_64 : decode cX3_enter 64 = .ok (.bipush 60, 2) := by decide +kernel
theorem dX3_enter_66 : decode cX3_enter 66 = .ok (.if_icmp .ge 7, 3) := by decide +kernel
theorem dX3_enter_69 : decode cX3_enter 69 = .ok (.iconst 2, 1) := by decide +kernel
theorem dX3_enter_70 : decode cX3_enter 70 = .ok (.goto 5, 3) := by decide +kernel
theorem dX3_enter_73 : decode cX3_enter 73 = .ok (.iload 4, 2) := by decide +kernel
theorem dX3_enter_75 : decode cX3_enter 75 = .ok (.istore 5, 2) := by decide +kernel
theorem dX3_enter_77 : decode cX3_enter 77 = .ok (.aload_n 0, 1) := by decide +kernel
theorem dX3_enter_78 : decode cX3_enter 78 = .ok (.getfield 17, 3) := by decide +kernel
theorem dX3_enter_81 : decode cX3_enter 81 = .ok (.iload_n 2, 1) := by decide +kernel
theorem dX3_enter_82 : decode cX3_enter 82 = .ok (.dup2, 1) := by decide +kernel
theorem dX3_enter_83 : decode cX3_enter 83 = .ok (.iaload, 1) := by decide +kernel
theorem dX3_enter_84 : decode cX3_enter 84 = .ok (.iload 5, 2) := by decide +kernel
theorem dX3_enter_86 : decode cX3_enter 86 = .ok (.iconst 2, 1) := by decide +kernel
theorem dX3_enter_87 : decode cX3_enter 87 = .ok (.if_icmp .eq 9, 3) := by decide +kernel
theorem dX3_enter_90 : decode cX3_enter 90 = .ok (.iload 5, 2) := by decide +kernel
theorem dX3_enter_92 : decode cX3_enter 92 = .ok (.iconst 3, 1) := by decide +kernel
theorem dX3_enter_93 : decode cX3_enter 93 = .ok (.if_icmp .ne 7, 3) := by decide +kernel
theorem dX3_enter_96 : decode cX3_enter 96 = .ok (.iconst 1, 1) := by decide +kernel
theorem dX3_enter_97 : decode cX3_enter 97 = .ok (.goto 4, 3) := by decide +kernel
theorem dX3_enter_100 : decode cX3_enter 100 = .ok (.iconst 0, 1) := by decide +kernel
theorem dX3_enter_101 : decode cX3_enter 101 = .ok (.iadd, 1) := by decide +kernel
theorem dX3_enter_102 : decode cX3_enter 102 = .ok (.iastore, 1) := by decide +kernel
theorem dX3_enter_103 : decode cX3_enter 103 = .ok (.aload_n 0, 1) := by decide +kernel
theorem dX3_enter_104 : decode cX3_enter 104 = .ok (.getfield 29, 3) := by decide +kernel
theorem dX3_enter_107 : decode cX3_enter 107 = .ok (.iload_n 1, 1) := by decide +kernel
theorem dX3_enter_108 : decode cX3_enter 108 = .ok (.dup2, 1) := by decide +kernel
theorem dX3_enter_109 : decode cX3_enter 109 = .ok (.iaload, 1) := by decide +kernel
theorem dX3_enter_110 : decode cX3_enter 110 = .ok (.iload 5, 2) := by decide +kernel
theorem dX3_enter_112 : decode cX3_enter 112 = .ok (.ifCond .eq 9, 3) := by decide +kernel
theorem dX3_enter_115 : decode cX3_enter 115 = .ok (.iload 5, 2) := by decide +kernel
theorem dX3_enter_117 : decode cX3_enter 117 = .ok (.iconst 1, 1) := by decide +kernel
theorem dX3_enter_118 : decode cX3_enter 118 = .ok (.if_icmp .ne 7, 3) := by decide +kernel
theorem dX3_enter_121 : decode cX3_enter 121 = .ok (.iconst 1, 1) := by decide +kernel
theorem dX3_enter_122 : decode cX3_enter 122 = .ok (.goto 4, 3) := by decide +kernel
theorem dX3_enter_125 : decode cX3_enter 125 = .ok (.iconst 0, 1) := by decide +kernel
theorem dX3_enter_126 : decode cX3_enter 126 = .ok (.iadd, 1) := by decide +kernel
theorem dX3_enter_127 : decode cX3_enter 127 = .ok (.iastore, 1) := by decide +kernel
theorem dX3_enter_128 : decode cX3_enter 128 = .ok (.aload_n 0, 1) := by decide +kernel
theorem dX3_enter_129 : decode cX3_enter 129 = .ok (.getfield 32, 3) := by decide +kernel
theorem dX3_enter_132 : decode cX3_enter 132 = .ok (.iload_n 1, 1) := by decide +kernel
theorem dX3_enter_133 : decode cX3_enter 133 = .ok (.aload_n 0, 1) := by decide +kernel
theorem dX3_enter_134 : decode cX3_enter 134 = .ok (.getfield 32, 3) := by decide +kernel
theorem dX3_enter_137 : decode cX3_enter 137 = .ok (.iload_n 1, 1) := by decide +kernel
theorem dX3_enter_138 : decode cX3_enter 138 = .ok (.baload, 1) := by decide +kernel
theorem dX3_enter_139 : decode cX3_enter 139 = .ok (.ifCond .ne 9, 3) := by decide +kernel
theorem dX3_enter_142 : decode cX3_enter 142 = .ok (.iload 5, 2) := by decide +kernel
theorem dX3_enter_144 : decode cX3_enter 144 = .ok (.iconst 1, 1) := by decide +kernel
theorem dX3_enter_145 : decode cX3_enter 145 = .ok (.if_icmp .ne 7, 3) := by decide +kernel
theorem dX3_enter_148 : decode cX3_enter 148 = .ok (.iconst 1, 1) := by decide +kernel
theorem dX3_enter_149 : decode cX3_enter 149 = .ok (.goto 4, 3) := by decide +kernel
theorem dX3_enter_152 : decode cX3_enter 152 = .ok (.iconst 0, 1) := by decide +kernel
theorem dX3_enter_153 : decode cX3_enter 153 = .ok (.bastore, 1) := by decide +kernel
theorem dX3_enter_154 : decode cX3_enter 154 = .ok (.iload 5, 2) := by decide +kernel
theorem dX3_enter_156 : decode cX3_enter 156 = .ok (.ireturn, 1) := by decide +kernel
set_option maxRecDepth 20000 in
theorem ggX3_may_X3_isBox : GoodIn wsX3_may wsX3_isBox := goodIn_r _ [5, 6, 7, 4, 8] (by decide +kernel) (by decide +kernel)
set_option maxRecDepth 20000 in
theorem gX3_may_X3_isBox : GoodIn wsX3_may (va_wsS RX3 107 yX3_isBox wsX3_isBox) := goodIn_app (goodIn_of _ (by decide +kernel)) ggX3_may_X3_isBox
set_option maxRecDepth 20000 in
theorem ggX3_may_X3_isPerson : GoodIn wsX3_may wsX3_isPerson := goodIn_r _ [11, 6, 7, 4, 8] (by decide +kernel) (by decide +kernel)
set_option maxRecDepth 20000 in
theorem gX3_may_X3_isPerson : GoodIn wsX3_may (va_wsS RX3 110 yX3_isPerson wsX3_isPerson) := goodIn_app (goodIn_of _ (by decide +kernel)) ggX3_may_X3_isPerson
set_option maxRecDepth 20000 in
theorem ggX3_may_X3_right : GoodIn wsX3_may wsX3_right := goodIn_r _ [15, 16, 17, 18, 19, 20, 21, 4, 22, 23, 24, 25, 26, 27, 28, 29, 30, 31, 32, 33, 34, 35, 36, 37, 38, 39, 40, 41, 42, 43, 44, 45, 46, 47, 48, 49, 50, 51, 52, 53, 54, 55, 56, 57, 58, 59, 60, 6, 7, 8, 65, 66, 67, 68, 69, 70, 71, 72, 73, 74, 75, 76, 77, 78, 79, 80, 81, 82, 83, 84, 85] (by decide +kernel) (by decide +kernel)
set_option maxRecDepth 20000 in
theorem gX3_may_X3_right : GoodIn wsX3_may (wsV RX3 113 RX3 yX3_right wsX3_right) := goodIn_app (goodIn_of _ (by decide +kernel)) ggX3_may_X3_right
set_option maxRecDepth 20000 in
theorem ggX3_may_X3_fails : GoodIn wsX3_may wsX3_fails := goodIn_r _ [64, 1, 65, 66, 67, 68, 69, 70, 71, 72, 73, 74, 75, 76, 77, 78, 79, 80, 81, 82, 83, 84, 85] (by decide +kernel) (by decide +kernel)
set_option maxRecDepth 20000 in
theorem gX3_may_X3_fails : GoodIn wsX3_may (wsV RX3 103 RX3 yX3_fails wsX3_fails) := goodIn_app (goodIn_of _ (by decide +kernel)) ggX3_may_X3_fails
theorem dX3_may_0 : decode cX3_may 0 = .ok (.aload_n 0, 1) := by decide +kernel
theorem dX3_may_1 : decode cX3_may 1 = .ok (.iconst 0, 1) := by decide +kernel
theorem dX3_may_2 : decode cX3_may 2 = .ok (.putfield 65, 3) := by decide +kernel
theorem dX3_may_5 : decode cX3_may 5 = .ok (.iload_n 1, 1) := by decide +kernel
theorem dX3_may_6 : decode cX3_may 6 = .ok (.invokestatic 107, 3) := by decide +kernel
theorem dX3_may_9 : decode cX3_may 9 = .ok (.ifCond .eq 19, 3) := by decide +kernel
theorem dX3_may_12 : decode cX3_may 12 = .ok (.iload_n 2, 1) := by decide +kernel
theorem dX3_may_13 : decode cX3_may 13 = .ok (.invokestatic 110, 3) := by decide +kernel
theorem dX3_may_16 : decode cX3_may 16 = .ok (.ifCond .eq 12, 3) := by decide +kernel
theorem dX3_may_19 : decode cX3_may 19 = .ok (.aload_n 0, 1) := by decide +kernel
theorem dX3_may_20 : decode cX3_may 20 = .ok (.iload_n 1, 1) := by decide +kernel
theorem dX3_may_21 : decode cX3_may 21 = .ok (.iload_n 2, 1) := by decide +kernel
theorem dX3_may_22 : decode cX3_may 22 = .ok (.invokevirtual 113, 3) := by decide +kernel
theorem dX3_may_25 : decode cX3_may 25 = .ok (.goto 8, 3) := by decide +kernel
theorem dX3_may_28 : decode cX3_may 28 = .ok (.aload_n 0, 1) := by decide +kernel
theorem dX3_may_29 : decode cX3_may 29 = .ok (.iconst 1, 1) := by decide +kernel
theorem dX3_may_30 : decode cX3_may 30 = .ok (.invokevirtual 103, 3) := by decide +kernel
theorem dX3_may_33 : decode cX3_may 33 = .ok (.ireturn, 1) := by decide +kernel
set_option maxRecDepth 20000 in
theorem ggX3_mayAll_X3_isBox : GoodIn wsX3_mayAll wsX3_isBox := goodIn_r _ [5, 6, 7, 4, 8] (by decide +kernel) (by decide +kernel)
set_option maxRecDepth 20000 in
theorem gX3_mayAll_X3_isBox : GoodIn wsX3_mayAll (va_wsS RX3 107 yX3_isBox wsX3_isBox) := goodIn_app (goodIn_of _ (by decide +kernel)) ggX3_mayAll_X3_isBox
set_option maxRecDepth 20000 in
theorem ggX3_mayAll_X3_fails : GoodIn wsX3_mayAll wsX3_fails := goodIn_r _ [12, 1, 62, 63, 64, 65, 66, 67, 68, 69, 70, 71, 72, 73, 74, 75, 76, 77, 78, 79, 80, 81, 82] (by decide +kernel) (by decide +kernel)
set_option maxRecDepth 20000 in
theorem gX3_mayAll_X3_fails : GoodIn wsX3_mayAll (wsV RX3 103 RX3 yX3_fails wsX3_fails) := goodIn_app (goodIn_of _ (by decide +kernel)) ggX3_mayAll_X3_fails
set_option maxRecDepth 20000 in
theorem ggX3_mayAll_X3_right : GoodIn wsX3_mayAll wsX3_right := goodIn_r _ [16, 17, 18, 19, 20, 21, 22, 4, 23, 24, 25, 26, 27, 28, 29, 30, 31, 32, 33, 34, 35, 36, 37, 38, 39, 40, 41, 42, 43, 44, 45, 46, 47, 48, 49, 50, 51, 52, 53, 54, 55, 56, 57, 58, 59, 60, 61, 6, 7, 8, 62, 63, 64, 65, 66, 67, 68, 69, 70, 71, 72, 73, 74, 75, 76, 77, 78, 79, 80, 81, 82] (by decide +kernel) (by decide +kernel)
set_option maxRecDepth 20000 in
theorem gX3_mayAll_X3_right : GoodIn wsX3_mayAll (wsV RX3 113 RX3 yX3_right wsX3_right) := goodIn_app (goodIn_of _ (by decide +kernel)) ggX3_mayAll_X3_right
theorem dX3_mayAll_0 : decode cX3_mayAll 0 = .ok (.aload_n 0, 1) := by decide +kernel
theorem dX3_mayAll_1 : decode cX3_mayAll 1 = .ok (.iconst 0, 1) := by decide +kernel
theorem dX3_mayAll_2 : decode cX3_mayAll 2 = .ok (.putfield 65, 3) := by decide +kernel
theorem dX3_mayAll_5 : decode cX3_mayAll 5 = .ok (.iload_n 1, 1) := by decide +kernel
theorem dX3_mayAll_6 : decode cX3_mayAll 6 = .ok (.invokestatic 107, 3) := by decide +kernel
theorem dX3_mayAll_9 : decode cX3_mayAll 9 = .ok (.ifCond .ne 9, 3) := by decide +kernel
theorem dX3_mayAll_12 : decode cX3_mayAll 12 = .ok (.aload_n 0, 1) := by decide +kernel
theorem dX3_mayAll_13 : decode cX3_mayAll 13 = .ok (.iconst 1, 1) := by decide +kernel
theorem dX3_mayAll_14 : decode cX3_mayAll 14 = .ok (.invokevirtual 103, 3) := by decide +kernel
theorem dX3_mayAll_17 : decode cX3_mayAll 17 = .ok (.ireturn, 1) := by decide +kernel
theorem dX3_mayAll_18 : decode cX3_mayAll 18 = .ok (.iconst 0, 1) := by decide +kernel
theorem dX3_mayAll_19 : decode cX3_mayAll 19 = .ok (.istore_n 2, 1) := by decide +kernel
theorem dX3_mayAll_20 : decode cX3_mayAll 20 = .ok (.iconst 0, 1) := by decide +kernel
theorem dX3_mayAll_21 : decode cX3_mayAll 21 = .ok (.istore_n 3, 1) := by decide +kernel
theorem dX3_mayAll_22 : decode cX3_mayAll 22 = .ok (.iload_n 3, 1) := by decide +kernel
theorem dX3_mayAll_23 : decode cX3_mayAll 23 = .ok (.bipush 16, 2) := by decide +kernel
theorem dX3_mayAll_25 : decode cX3_mayAll 25 = .ok (.if_icmp .ge 27, 3) := by decide +kernel
theorem dX3_mayAll_28 : decode cX3_mayAll 28 = .ok (.iload_n 2, 1) := by decide +kernel
theorem dX3_mayAll_29 : decode cX3_mayAll 29 = .ok (.aload_n 0, 1) := by decide +kernel
theorem dX3_mayAll_30 : decode cX3_mayAll 30 = .ok (.iload_n 1, 1) := by decide +kernel
theorem dX3_mayAll_31 : decode cX3_mayAll 31 = .ok (.iload_n 3, 1) := by decide +kernel
theorem dX3_mayAll_32 : decode cX3_mayAll 32 = .ok (.invokevirtual 113, 3) := by decide +kernel
theorem dX3_mayAll_35 : decode cX3_mayAll 35 = .ok (.iconst 3, 1) := by decide +kernel
theorem dX3_mayAll_36 : decode cX3_mayAll 36 = .ok (.if_icmp .eq 7, 3) := by decide +kernel
theorem dX3_mayAll_39 : decode cX3_mayAll 39 = .ok (.iconst 1, 1) := by decide +kernel
theorem dX3_mayAll_40 : decode cX3_mayAll 40 = .ok (.goto 4, 3) := by decide +kernel
theorem dX3_mayAll_43 : decode cX3_mayAll 43 = .ok (.iconst 0, 1) := by decide +kernel
theorem dX3_mayAll_44 : decode cX3_mayAll 44 = .ok (.iadd, 1) := by decide +kernel
theorem dX3_mayAll_45 : decode cX3_mayAll 45 = .ok (.istore_n 2, 1) := by decide +kernel
theorem dX3_mayAll_46 : decode cX3_mayAll 46 = .ok (.iinc 3 1, 3) := by decide +kernel
theorem dX3_mayAll_49 : decode cX3_mayAll 49 = .ok (.goto (-27), 3) := by decide +kernel
theorem dX3_mayAll_52 : decode cX3_mayAll 52 = .ok (.iload_n 2, 1) := by decide +kernel
theorem dX3_mayAll_53 : decode cX3_mayAll 53 = .ok (.ireturn, 1) := by decide +kernel
set_option maxRecDepth 20000 in
theorem ggX3_holder_X3_isBox : GoodIn wsX3_holder wsX3_isBox := goodIn_r _ [7, 8, 9, 6, 10] (by decide +kernel) (by decide +kernel)
set_option maxRecDepth 20000 in
theorem gX3_holder_X3_isBox : GoodIn wsX3_holder (va_wsS RX3 107 yX3_isBox wsX3_isBox) := goodIn_app (goodIn_of _ (by decide +kernel)) ggX3_holder_X3_isBox
set_option maxRecDepth 20000 in
theorem ggX3_holder_X3_fails : GoodIn wsX3_holder wsX3_fails := goodIn_r _ [14, 1, 15, 16, 17, 18, 19, 20, 21, 22, 23, 24, 25, 26, 27, 28, 29, 30, 31, 32, 33, 34, 35] (by decide +kernel) (by decide +kernel)
set_option maxRecDepth 20000 in
theorem gX3_holder_X3_fails : GoodIn wsX3_holder (wsV RX3 103 RX3 yX3_fails wsX3_fails) := goodIn_app (goodIn_of _ (by decide +kernel)) ggX3_holder_X3_fails
theorem dX3_holder_0 : decode cX3_holder 0 = .ok (.aload_n 0, 1) := by decide +kernel
theorem dX3_holder_1 : decode cX3_holder 1 = .ok (.iconst 0, 1) := by decide +kernel
theorem dX3_holder_2 : decode cX3_holder 2 = .ok (.putfield 65, 3) := by decide +kernel
theorem dX3_holder_5 : decode cX3_holder 5 = .ok (.iload_n 1, 1) := by decide +kernel
theorem dX3_holder_6 : decode cX3_holder 6 = .ok (.invokestatic 107, 3) := by decide +kernel
theorem dX3_holder_9 : decode cX3_holder 9 = .ok (.ifCond .ne 9, 3) := by decide +kernel
theorem dX3_holder_12 : decode cX3_holder 12 = .ok (.aload_n 0, 1) := by decide +kernel
theorem dX3_holder_13 : decode cX3_holder 13 = .ok (.iconst 1, 1) := by decide +kernel
theorem dX3_holder_14 : decode cX3_holder 14 = .ok (.invokevirtual 103, 3) := by decide +kernel
theorem dX3_holder_17 : decode cX3_holder 17 = .ok (.ireturn, 1) := by decide +kernel
theorem dX3_holder_18 : decode cX3_holder 18 = .ok (.aload_n 0, 1) := by decide +kernel
theorem dX3_holder_19 : decode cX3_holder 19 = .ok (.getfield 20, 3) := by decide +kernel
theorem dX3_holder_22 : decode cX3_holder 22 = .ok (.iload_n 1, 1) := by decide +kernel
theorem dX3_holder_23 : decode cX3_holder 23 = .ok (.iaload, 1) := by decide +kernel
theorem dX3_holder_24 : decode cX3_holder 24 = .ok (.ifCond .ne 7, 3) := by decide +kernel
theorem dX3_holder_27 : decode cX3_holder 27 = .ok (.iconst (-1), 1) := by decide +kernel
theorem dX3_holder_28 : decode cX3_holder 28 = .ok (.goto 9, 3) := by decide +kernel
theorem dX3_holder_31 : decode cX3_holder 31 = .ok (.aload_n 0, 1) := by decide +kernel
theorem dX3_holder_32 : decode cX3_holder 32 = .ok (.getfield 23, 3) := by decide +kernel
theorem dX3_holder_35 : decode cX3_holder 35 = .ok (.iload_n 1, 1) := by decide +kernel
theorem dX3_holder_36 : decode cX3_holder 36 = .ok (.iaload, 1) := by decide +kernel
theorem dX3_holder_37 : decode cX3_holder 37 = .ok (.ireturn, 1) := by decide +kernel
set_option maxRecDepth 20000 in
theorem ggX3_notices_X3_isBox : GoodIn wsX3_notices wsX3_isBox := goodIn_r _ [5, 6, 7, 4, 8] (by decide +kernel) (by decide +kernel)
set_option maxRecDepth 20000 in
theorem gX3_notices_X3_isBox : GoodIn wsX3_notices (va_wsS RX3 107 yX3_isBox wsX3_isBox) := goodIn_app (goodIn_of _ (by decide +kernel)) ggX3_notices_X3_isBox
set_option maxRecDepth 20000 in
theorem ggX3_notices_X3_noticesOf : GoodIn wsX3_notices wsX3_noticesOf := goodIn_r _ [12, 13, 14, 15, 4, 16, 17, 18, 19, 20, 21, 22, 23, 28, 29, 30, 31, 32, 33, 34, 35, 36, 37, 38, 39, 40, 41, 42, 43, 44, 45, 46, 47, 48] (by decide +kernel) (by decide +kernel)
set_option maxRecDepth 20000 in
theorem gX3_notices_X3_noticesOf : GoodIn wsX3_notices (wsV RX3 97 RX3 yX3_noticesOf wsX3_noticesOf) := goodIn_app (goodIn_of _ (by decide +kernel)) ggX3_notices_X3_noticesOf
set_option maxRecDepth 20000 in
theorem ggX3_notices_X3_fails : GoodIn wsX3_notices wsX3_fails := goodIn_r _ [27, 1, 28, 29, 30, 31, 32, 33, 34, 35, 36, 37, 38, 39, 40, 41, 42, 43, 44, 45, 46, 47, 48] (by decide +kernel) (by decide +kernel)
set_option maxRecDepth 20000 in
theorem gX3_notices_X3_fails : GoodIn wsX3_notices (wsV RX3 103 RX3 yX3_fails wsX3_fails) := goodIn_app (goodIn_of _ (by decide +kernel)) ggX3_notices_X3_fails
theorem dX3_notices_0 : decode cX3_notices 0 = .ok (.aload_n 0, 1) := by decide +kernel
theorem dX3_notices_1 : decode cX3_notices 1 = .ok (.iconst 0, 1) := by decide +kernel
theorem dX3_notices_2 : decode cX3_notices 2 = .ok (.putfield 65, 3) := by decide +kernel
theorem dX3_notices_5 : decode cX3_notices 5 = .ok (.iload_n 1, 1) := by decide +kernel
theorem dX3_notices_6 : decode cX3_notices 6 = .ok (.invokestatic 107, 3) := by decide +kernel
theorem dX3_notices_9 : decode cX3_notices 9 = .ok (.ifCond .eq 11, 3) := by decide +kernel
theorem dX3_notices_12 : decode cX3_notices 12 = .ok (.aload_n 0, 1) := by decide +kernel
theorem dX3_notices_13 : decode cX3_notices 13 = .ok (.iload_n 1, 1) := by decide +kernel
theorem dX3_notices_14 : decode cX3_notices 14 = .ok (.invokevirtual 97, 3) := by decide +kernel
theorem dX3_notices_17 : decode cX3_notices 17 = .ok (.goto 8, 3) := by decide +kernel
theorem dX3_notices_20 : decode cX3_notices 20 = .ok (.aload_n 0, 1) := by decide +kernel
theorem dX3_notices_21 : decode cX3_notices 21 = .ok (.iconst 1, 1) := by decide +kernel
theorem dX3_notices_22 : decode cX3_notices 22 = .ok (.invokevirtual 103, 3) := by decide +kernel
theorem dX3_notices_25 : decode cX3_notices 25 = .ok (.ireturn, 1) := by decide +kernel
set_option maxRecDepth 20000 in
theorem ggX3_refusals_X3_isPerson : GoodIn wsX3_refusals wsX3_isPerson := goodIn_r _ [6, 7, 8, 5, 9] (by decide +kernel) (by decide +kernel)
set_option maxRecDepth 20000 in
theorem gX3_refusals_X3_isPerson : GoodIn wsX3_refusals (va_wsS RX3 110 yX3_isPerson wsX3_isPerson) := goodIn_app (goodIn_of _ (by decide +kernel)) ggX3_refusals_X3_isPerson
set_option maxRecDepth 20000 in
theorem ggX3_refusals_X3_fails : GoodIn wsX3_refusals wsX3_fails := goodIn_r _ [13, 1, 14, 15, 16, 17, 18, 19, 20, 21, 22, 23, 24, 25, 26, 27, 28, 29, 30, 31, 32, 33, 34] (by decide +kernel) (by decide +kernel)
set_option maxRecDepth 20000 in
theorem gX3_refusals_X3_fails : GoodIn wsX3_refusals (wsV RX3 103 RX3 yX3_fails wsX3_fails) := goodIn_app (goodIn_of _ (by decide +kernel)) ggX3_refusals_X3_fails
theorem dX3_refusals_0 : decode cX3_refusals 0 = .ok (.aload_n 0, 1) := by decide +kernel
theorem dX3_refusals_1 : decode cX3_refusals 1 = .ok (.iconst 0, 1) := by decide +kernel
theorem dX3_refusals_2 : decode cX3_refusals 2 = .ok (.putfield 65, 3) := by decide +kernel
theorem dX3_refusals_5 : decode cX3_refusals 5 = .ok (.iload_n 1, 1) := by decide +kernel
theorem dX3_refusals_6 : decode cX3_refusals 6 = .ok (.invokestatic 110, 3) := by decide +kernel
theorem dX3_refusals_9 : decode cX3_refusals 9 = .ok (.ifCond .eq 12, 3) := by decide +kernel
theorem dX3_refusals_12 : decode cX3_refusals 12 = .ok (.aload_n 0, 1) := by decide +kernel
theorem dX3_refusals_13 : decode cX3_refusals 13 = .ok (.getfield 17, 3) := by decide +kernel
theorem dX3_refusals_16 : decode cX3_refusals 16 = .ok (.iload_n 1, 1) := by decide +kernel
theorem dX3_refusals_17 : decode cX3_refusals 17 = .ok (.iaload, 1) := by decide +kernel
theorem dX3_refusals_18 : decode cX3_refusals 18 = .ok (.goto 8, 3) := by decide +kernel
theorem dX3_refusals_21 : decode cX3_refusals 21 = .ok (.aload_n 0, 1) := by decide +kernel
theorem dX3_refusals_22 : decode cX3_refusals 22 = .ok (.iconst 1, 1) := by decide +kernel
theorem dX3_refusals_23 : decode cX3_refusals 23 = .ok (.invokevirtual 103, 3) := by decide +kernel
theorem dX3_refusals_26 : decode cX3_refusals 26 = .ok (.ireturn, 1) := by decide +kernel
set_option maxRecDepth 20000 in
theorem ggX3_binding_X3_isBox : GoodIn wsX3_binding wsX3_isBox := goodIn_r _ [5, 6, 7, 4, 8] (by decide +kernel) (by decide +kernel)
set_option maxRecDepth 20000 in
theorem gX3_binding_X3_isBox : GoodIn wsX3_binding (va_wsS RX3 107 yX3_isBox wsX3_isBox) := goodIn_app (goodIn_of _ (by decide +kernel)) ggX3_binding_X3_isBox
set_option maxRecDepth 20000 in
theorem ggX3_binding_X3_binds : GoodIn wsX3_binding wsX3_binds := goodIn_r _ [12, 13, 14, 15, 16, 21, 22, 23, 24, 25, 26, 27, 28, 29, 30, 31, 32, 33, 34, 35, 36, 37, 38, 39, 40, 41] (by decide +kernel) (by decide +kernel)
set_option maxRecDepth 20000 in
theorem gX3_binding_X3_binds : GoodIn wsX3_binding (wsV RX3 91 RX3 yX3_binds wsX3_binds) := goodIn_app (goodIn_of _ (by decide +kernel)) ggX3_binding_X3_binds
set_option maxRecDepth 20000 in
theorem ggX3_binding_X3_fails : GoodIn wsX3_binding wsX3_fails := goodIn_r _ [20, 1, 21, 22, 23, 24, 25, 26, 27, 28, 29, 30, 31, 32, 33, 34, 35, 36, 37, 38, 39, 40, 41] (by decide +kernel) (by decide +kernel)
set_option maxRecDepth 20000 in
theorem gX3_binding_X3_fails : GoodIn wsX3_binding (wsV RX3 103 RX3 yX3_fails wsX3_fails) := goodIn_app (goodIn_of _ (by decide +kernel)) ggX3_binding_X3_fails
theorem dX3_binding_0 : decode cX3_binding 0 = .ok (.aload_n 0, 1) := by decide +kernel
theorem dX3_binding_1 : decode cX3_binding 1 = .ok (.iconst 0, 1) := by decide +kernel
theorem dX3_binding_2 : decode cX3_binding 2 = .ok (.putfield 65, 3) := by decide +kernel
theorem dX3_binding_5 : decode cX3_binding 5 = .ok (.iload_n 1, 1) := by decide +kernel
theorem dX3_binding_6 : decode cX3_binding 6 = .ok (.invokestatic 107, 3) := by decide +kernel
theorem dX3_binding_9 : decode cX3_binding 9 = .ok (.ifCond .eq 11, 3) := by decide +kernel
theorem dX3_binding_12 : decode cX3_binding 12 = .ok (.aload_n 0, 1) := by decide +kernel
theorem dX3_binding_13 : decode cX3_binding 13 = .ok (.iload_n 1, 1) := by decide +kernel
theorem dX3_binding_14 : decode cX3_binding 14 = .ok (.invokevirtual 91, 3) := by decide +kernel
theorem dX3_binding_17 : decode cX3_binding 17 = .ok (.goto 8, 3) := by decide +kernel
theorem dX3_binding_20 : decode cX3_binding 20 = .ok (.aload_n 0, 1) := by decide +kernel
theorem dX3_binding_21 : decode cX3_binding 21 = .ok (.iconst 1, 1) := by decide +kernel
theorem dX3_binding_22 : decode cX3_binding 22 = .ok (.invokevirtual 103, 3) := by decide +kernel
theorem dX3_binding_25 : decode cX3_binding 25 = .ok (.ireturn, 1) := by decide +kernel
theorem dJ9_max_7cf53_0 : decode cJ9_max_7cf53 0 = .ok (.iload_n 0, 1) := by decide +kernel
theorem dJ9_max_7cf53_1 : decode cJ9_max_7cf53 1 = .ok (.iload_n 1, 1) := by decide +kernel
theorem dJ9_max_7cf53_2 : decode cJ9_max_7cf53 2 = .ok (.if_icmp .lt 7, 3) := by decide +kernel
theorem dJ9_max_7cf53_5 : decode cJ9_max_7cf53 5 = .ok (.iload_n 0, 1) := by decide +kernel
theorem dJ9_max_7cf53_6 : decode cJ9_max_7cf53 6 = .ok (.goto 4, 3) := by decide +kernel
theorem dJ9_max_7cf53_9 : decode cJ9_max_7cf53 9 = .ok (.iload_n 1, 1) := by decide +kernel
theorem dJ9_max_7cf53_10 : decode cJ9_max_7cf53 10 = .ok (.ireturn, 1) := by decide +kernel
theorem dJ9_min_7cf53_0 : decode cJ9_min_7cf53 0 = .ok (.iload_n 0, 1) := by decide +kernel
theorem dJ9_min_7cf53_1 : decode cJ9_min_7cf53 1 = .ok (.iload_n 1, 1) := by decide +kernel
theorem dJ9_min_7cf53_2 : decode cJ9_min_7cf53 2 = .ok (.if_icmp .gt 7, 3) := by decide +kernel
theorem dJ9_min_7cf53_5 : decode cJ9_min_7cf53 5 = .ok (.iload_n 0, 1) := by decide +kernel
theorem dJ9_min_7cf53_6 : decode cJ9_min_7cf53 6 = .ok (.goto 4, 3) := by decide +kernel
theorem dJ9_min_7cf53_9 : decode cJ9_min_7cf53 9 = .ok (.iload_n 1, 1) := by decide +kernel
theorem dJ9_min_7cf53_10 : decode cJ9_min_7cf53 10 = .ok (.ireturn, 1) := by decide +kernel
end
section
set_option maxRecDepth 20000 in
theorem ggL_pass_X2_pass : GoodIn wsL_pass wsX2_pass := goodIn_ca (goodIn_ca (goodIn_r _ [7, 8, 9, 10, 11, 12, 13, 6, 14, 15, 16, 17, 18, 19, 20, 21, 22] (by decide +kernel) (by decide +kernel)) (goodIn_sub (fun _ h => List.mem_cons_of_mem _ (List.mem_append_left _ (List.mem_append_right _ h))) (by decide +kernel))) (goodIn_sub (fun _ h => List.mem_cons_of_mem _ (List.mem_append_right _ h)) (by decide +kernel))
set_option maxRecDepth 20000 in
theorem gL_pass_X2_pass : GoodIn wsL_pass (wsV RL 7 RX2 yX2_pass wsX2_pass) := goodIn_app (goodIn_of _ (by decide +kernel)) ggL_pass_X2_pass
theorem dL_pass_0 : decode cL_pass 0 = .ok (.aload_n 2, 1) := by decide +kernel
theorem dL_pass_1 : decode cL_pass 1 = .ok (.iconst 0, 1) := by decide +kernel
theorem dL_pass_2 : decode cL_pass 2 = .ok (.aload_n 0, 1) := by decide +kernel
theorem dL_pass_3 : decode cL_pass 3 = .ok (.iload_n 1, 1) := by decide +kernel
theorem dL_pass_4 : decode cL_pass 4 = .ok (.invokevirtual 7, 3) := by decide +kernel
theorem dL_pass_7 : decode cL_pass 7 = .ok (.i2l, 1) := by decide +kernel
theorem dL_pass_8 : decode cL_pass 8 = .ok (.lastore, 1) := by decide +kernel
theorem dL_pass_9 : decode cL_pass 9 = .ok (.goto 9, 3) := by decide +kernel
theorem dL_pass_12 : decode cL_pass 12 = .ok (.astore_n 3, 1) := by decide +kernel
theorem dL_pass_13 : decode cL_pass 13 = .ok (.iconst 1, 1) := by decide +kernel
theorem dL_pass_14 : decode cL_pass 14 = .ok (.ireturn, 1) := by decide +kernel
theorem dL_pass_15 : decode cL_pass 15 = .ok (.astore_n 3, 1) := by decide +kernel
theorem dL_pass_16 : decode cL_pass 16 = .ok (.iconst 2, 1) := by decide +kernel
theorem dL_pass_17 : decode cL_pass 17 = .ok (.ireturn, 1) := by decide +kernel
theorem dL_pass_18 : decode cL_pass 18 = .ok (.iconst 0, 1) := by decide +kernel
theorem dL_pass_19 : decode cL_pass 19 = .ok (.ireturn, 1) := by decide +kernel
set_option maxRecDepth 20000 in
theorem ggL_rent_X2_rent : GoodIn wsL_rent wsX2_rent := goodIn_ca (goodIn_ca (goodIn_r _ [7, 8, 9, 10, 11, 12, 13, 6, 14, 15, 16, 17, 18, 19, 20, 21, 22, 23, 24, 25, 26, 27, 28, 29, 30, 31, 32, 33, 34, 35, 36, 37, 38, 39, 40, 41, 42, 43, 44, 45, 46, 47, 48, 49, 50, 51, 52, 53, 54, 55, 56, 57, 58, 59] (by decide +kernel) (by decide +kernel)) (goodIn_sub (fun _ h => List.mem_cons_of_mem _ (List.mem_append_left _ (List.mem_append_right _ h))) (by decide +kernel))) (goodIn_sub (fun _ h => List.mem_cons_of_mem _ (List.mem_append_right _ h)) (by decide +kernel))
set_option maxRecDepth 20000 in
theorem gL_rent_X2_rent : GoodIn wsL_rent (wsV RL 17 RX2 yX2_rent wsX2_rent) := goodIn_app (goodIn_of _ (by decide +kernel)) ggL_rent_X2_rent
theorem dL_rent_0 : decode cL_rent 0 = .ok (.aload 4, 2) := by decide +kernel
theorem dL_rent_2 : decode cL_rent 2 = .ok (.iconst 0, 1) := by decide +kernel
theorem dL_rent_3 : decode cL_rent 3 = .ok (.aload_n 0, 1) := by decide +kernel
theorem dL_rent_4 : decode cL_rent 4 = .ok (.iload_n 1, 1) := by decide +kernel
theorem dL_rent_5 : decode cL_rent 5 = .ok (.iload_n 2, 1) := by decide +kernel
theorem dL_rent_6 : decode cL_rent 6 = .ok (.iload_n 3, 1) := by decide +kernel
theorem dL_rent_7 : decode cL_rent 7 = .ok (.invokevirtual 17, 3) := by decide +kernel
theorem dL_rent_10 : decode cL_rent 10 = .ok (.i2l, 1) := by decide +kernel
theorem dL_rent_11 : decode cL_rent 11 = .ok (.lastore, 1) := by decide +kernel
theorem dL_rent_12 : decode cL_rent 12 = .ok (.goto 11, 3) := by decide +kernel
theorem dL_rent_15 : decode cL_rent 15 = .ok (.astore 5, 2) := by decide +kernel
theorem dL_rent_17 : decode cL_rent 17 = .ok (.iconst 1, 1) := by decide +kernel
theorem dL_rent_18 : decode cL_rent 18 = .ok (.ireturn, 1) := by decide +kernel
theorem dL_rent_19 : decode cL_rent 19 = .ok (.astore 5, 2) := by decide +kernel
theorem dL_rent_21 : decode cL_rent 21 = .ok (.iconst 2, 1) := by decide +kernel
theorem dL_rent_22 : decode cL_rent 22 = .ok (.ireturn, 1) := by decide +kernel
theorem dL_rent_23 : decode cL_rent 23 = .ok (.iconst 0, 1) := by decide +kernel
theorem dL_rent_24 : decode cL_rent 24 = .ok (.ireturn, 1) := by decide +kernel
set_option maxRecDepth 20000 in
theorem ggL_extend_X2_extend : GoodIn wsL_extend wsX2_extend := goodIn_ca (goodIn_ca (goodIn_r _ [7, 8, 9, 10, 6, 11, 12, 13, 14, 15, 16, 17, 18, 19, 20, 21, 22, 23, 24, 25, 26, 27, 28, 29, 30, 31, 32, 33, 34, 35, 36, 37, 38, 39, 40, 41, 42, 43] (by decide +kernel) (by decide +kernel)) (goodIn_sub (fun _ h => List.mem_cons_of_mem _ (List.mem_append_left _ (List.mem_append_right _ h))) (by decide +kernel))) (goodIn_sub (fun _ h => List.mem_cons_of_mem _ (List.mem_append_right _ h)) (by decide +kernel))
set_option maxRecDepth 20000 in
theorem gL_extend_X2_extend : GoodIn wsL_extend (wsV RL 21 RX2 yX2_extend wsX2_extend) := goodIn_app (goodIn_of _ (by decide +kernel)) ggL_extend_X2_extend
theorem dL_extend_0 : decode cL_extend 0 = .ok (.aload_n 3, 1) := by decide +kernel
theorem dL_extend_1 : decode cL_extend 1 = .ok (.iconst 0, 1) := by decide +kernel
theorem dL_extend_2 : decode cL_extend 2 = .ok (.aload_n 0, 1) := by decide +kernel
theorem dL_extend_3 : decode cL_extend 3 = .ok (.iload_n 1, 1) := by decide +kernel
theorem dL_extend_4 : decode cL_extend 4 = .ok (.iload_n 2, 1) := by decide +kernel
theorem dL_extend_5 : decode cL_extend 5 = .ok (.invokevirtual 21, 3) := by decide +kernel
theorem dL_extend_8 : decode cL_extend 8 = .ok (.i2l, 1) := by decide +kernel
theorem dL_extend_9 : decode cL_extend 9 = .ok (.lastore, 1) := by decide +kernel
theorem dL_extend_10 : decode cL_extend 10 = .ok (.goto 11, 3) := by decide +kernel
theorem dL_extend_13 : decode cL_extend 13 = .ok (.astore 4, 2) := by decide +kernel
theorem dL_extend_15 : decode cL_extend 15 = .ok (.iconst 1, 1) := by decide +kernel
theorem dL_extend_16 : decode cL_extend 16 = .ok (.ireturn, 1) := by decide +kernel
theorem dL_extend_17 : decode cL_extend 17 = .ok (.astore 4, 2) := by decide +kernel
theorem dL_extend_19 : decode cL_extend 19 = .ok (.iconst 2, 1) := by decide +kernel
theorem dL_extend_20 : decode cL_extend 20 = .ok (.ireturn, 1) := by decide +kernel
theorem dL_extend_21 : decode cL_extend 21 = .ok (.iconst 0, 1) := by decide +kernel
theorem dL_extend_22 : decode cL_extend 22 = .ok (.ireturn, 1) := by decide +kernel
set_option maxRecDepth 20000 in
theorem ggL_giveBack_X2_giveBack : GoodIn wsL_giveBack wsX2_giveBack := goodIn_ca (goodIn_ca (goodIn_r _ [7, 8, 9, 10, 11, 12, 6, 13, 14, 15, 16, 17, 18, 19, 20, 21, 22, 23, 24, 25, 26, 27, 28, 29, 30, 31, 32, 33, 34, 35, 36, 37, 38, 39, 40, 41, 42, 43, 44, 45, 46, 47, 48, 49, 50, 51, 52, 53, 54, 55, 56, 57, 58, 59, 60, 61, 62, 63, 64, 65, 66, 67, 68, 69, 70, 71, 72, 73, 74, 75, 76, 77, 78, 79, 80, 81, 82, 83, 84, 85, 86, 87, 88, 89, 90, 91, 92, 93, 94, 95, 96, 97, 98, 99, 100, 101, 102, 103, 104, 105, 106, 107, 108, 109, 110, 111, 112, 113, 114, 115, 116, 117, 118, 119, 120, 121, 122, 123, 124, 125, 126, 127, 128, 129, 130, 131, 132, 133, 134, 135, 136, 137, 138, 139, 140] (by decide +kernel) (by decide +kernel)) (goodIn_sub (fun _ h => List.mem_cons_of_mem _ (List.mem_append_left _ (List.mem_append_right _ h))) (by decide +kernel))) (goodIn_sub (fun _ h => List.mem_cons_of_mem _ (List.mem_append_right _ h)) (by decide +kernel))
set_option maxRecDepth 20000 in
theorem gL_giveBack_X2_giveBack : GoodIn wsL_giveBack (wsV RL 25 RX2 yX2_giveBack wsX2_giveBack) := goodIn_app (goodIn_of _ (by decide +kernel)) ggL_giveBack_X2_giveBack
theorem dL_giveBack_0 : decode cL_giveBack 0 = .ok (.aload_n 3, 1) := by decide +kernel
theorem dL_giveBack_1 : decode cL_giveBack 1 = .ok (.iconst 0, 1) := by decide +kernel
theorem dL_giveBack_2 : decode cL_giveBack 2 = .ok (.aload_n 0, 1) := by decide +kernel
theorem dL_giveBack_3 : decode cL_giveBack 3 = .ok (.iload_n 1, 1) := by decide +kernel
theorem dL_giveBack_4 : decode cL_giveBack 4 = .ok (.iload_n 2, 1) := by decide +kernel
theorem dL_giveBack_5 : decode cL_giveBack 5 = .ok (.invokevirtual 25, 3) := by decide +kernel
theorem dL_giveBack_8 : decode cL_giveBack 8 = .ok (.i2l, 1) := by decide +kernel
theorem dL_giveBack_9 : decode cL_giveBack 9 = .ok (.lastore, 1) := by decide +kernel
theorem dL_giveBack_10 : decode cL_giveBack 10 = .ok (.goto 11, 3) := by decide +kernel
theorem dL_giveBack_13 : decode cL_giveBack 13 = .ok (.astore 4, 2) := by decide +kernel
theorem dL_giveBack_15 : decode cL_giveBack 15 = .ok (.iconst 1, 1) := by decide +kernel
theorem dL_giveBack_16 : decode cL_giveBack 16 = .ok (.ireturn, 1) := by decide +kernel
theorem dL_giveBack_17 : decode cL_giveBack 17 = .ok (.astore 4, 2) := by decide +kernel
theorem dL_giveBack_19 : decode cL_giveBack 19 = .ok (.iconst 2, 1) := by decide +kernel
theorem dL_giveBack_20 : decode cL_giveBack 20 = .ok (.ireturn, 1) := by decide +kernel
theorem dL_giveBack_21 : decode cL_giveBack 21 = .ok (.iconst 0, 1) := by decide +kernel
theorem dL_giveBack_22 : decode cL_giveBack 22 = .ok (.ireturn, 1) := by decide +kernel
set_option maxRecDepth 20000 in
theorem ggL_drill_X2_drill : GoodIn wsL_drill wsX2_drill := goodIn_ca (goodIn_ca (goodIn_r _ [7, 8, 9, 10, 11, 12, 13, 14, 15, 16, 6, 17, 18, 19, 20, 21, 22, 23, 24, 25, 26, 27, 28, 29, 30, 31, 32, 33, 34, 35, 36, 37, 38, 39, 40, 41, 42, 43, 44, 45, 46, 47, 48, 49, 50, 51, 52, 53, 54, 55, 56, 57, 58, 59, 60, 61, 62, 63, 64, 65, 66, 67, 68, 69, 70, 71, 72, 73, 74, 75, 76, 77, 78, 79, 80, 81, 82, 83, 84, 85, 86, 87, 88, 89, 90, 91, 92, 93, 94, 95, 96, 97, 98, 99, 100, 101] (by decide +kernel) (by decide +kernel)) (goodIn_sub (fun _ h => List.mem_cons_of_mem _ (List.mem_append_left _ (List.mem_append_right _ h))) (by decide +kernel))) (goodIn_sub (fun _ h => List.mem_cons_of_mem _ (List.mem_append_right _ h)) (by decide +kernel))
set_option maxRecDepth 20000 in
theorem gL_drill_X2_drill : GoodIn wsL_drill (wsV RL 28 RX2 yX2_drill wsX2_drill) := goodIn_app (goodIn_of _ (by decide +kernel)) ggL_drill_X2_drill
theorem dL_drill_0 : decode cL_drill 0 = .ok (.aload 4, 2) := by decide +kernel
theorem dL_drill_2 : decode cL_drill 2 = .ok (.iconst 0, 1) := by decide +kernel
theorem dL_drill_3 : decode cL_drill 3 = .ok (.aload_n 0, 1) := by decide +kernel
theorem dL_drill_4 : decode cL_drill 4 = .ok (.iload_n 1, 1) := by decide +kernel
theorem dL_drill_5 : decode cL_drill 5 = .ok (.iload_n 2, 1) := by decide +kernel
theorem dL_drill_6 : decode cL_drill 6 = .ok (.iload_n 3, 1) := by decide +kernel
theorem dL_drill_7 : decode cL_drill 7 = .ok (.invokevirtual 28, 3) := by decide +kernel
theorem dL_drill_10 : decode cL_drill 10 = .ok (.i2l, 1) := by decide +kernel
theorem dL_drill_11 : decode cL_drill 11 = .ok (.lastore, 1) := by decide +kernel
theorem dL_drill_12 : decode cL_drill 12 = .ok (.goto 11, 3) := by decide +kernel
theorem dL_drill_15 : decode cL_drill 15 = .ok (.astore 5, 2) := by decide +kernel
theorem dL_drill_17 : decode cL_drill 17 = .ok (.iconst 1, 1) := by decide +kernel
theorem dL_drill_18 : decode cL_drill 18 = .ok (.ireturn, 1) := by decide +kernel
theorem dL_drill_19 : decode cL_drill 19 = .ok (.astore 5, 2) := by decide +kernel
theorem dL_drill_21 : decode cL_drill 21 = .ok (.iconst 2, 1) := by decide +kernel
theorem dL_drill_22 : decode cL_drill 22 = .ok (.ireturn, 1) := by decide +kernel
theorem dL_drill_23 : decode cL_drill 23 = .ok (.iconst 0, 1) := by decide +kernel
theorem dL_drill_24 : decode cL_drill 24 = .ok (.ireturn, 1) := by decide +kernel
set_option maxRecDepth 20000 in
theorem ggL_fetch_X2_fetch : GoodIn wsL_fetch wsX2_fetch := goodIn_ca (goodIn_ca (goodIn_r _ [7, 8, 9, 10, 11, 12, 6, 13, 14, 15, 16, 17, 18, 19, 20, 21, 22, 23, 24, 25, 26, 27, 28, 29, 30, 31, 32, 33, 34, 35, 36, 37, 38, 39, 40, 41, 42, 43, 44, 45, 46, 47, 48, 49, 50, 51, 52, 53, 54, 55, 56, 57, 58, 59, 60, 61, 62, 63, 64, 65, 66, 67, 68, 69, 70, 71, 72, 73, 74, 75, 76, 77, 78, 79, 80, 81, 82, 83, 84, 85, 86, 87, 88, 89, 90, 91, 92, 93, 94, 95, 96, 97, 98, 99, 100, 101, 102, 103, 104, 105, 106, 107, 108] (by decide +kernel) (by decide +kernel)) (goodIn_sub (fun _ h => List.mem_cons_of_mem _ (List.mem_append_left _ (List.mem_append_right _ h))) (by decide +kernel))) (goodIn_sub (fun _ h => List.mem_cons_of_mem _ (List.mem_append_right _ h)) (by decide +kernel))
set_option maxRecDepth 20000 in
theorem gL_fetch_X2_fetch : GoodIn wsL_fetch (wsV RL 31 RX2 yX2_fetch wsX2_fetch) := goodIn_app (goodIn_of _ (by decide +kernel)) ggL_fetch_X2_fetch
theorem dL_fetch_0 : decode cL_fetch 0 = .ok (.aload_n 3, 1) := by decide +kernel
theorem dL_fetch_1 : decode cL_fetch 1 = .ok (.iconst 0, 1) := by decide +kernel
theorem dL_fetch_2 : decode cL_fetch 2 = .ok (.aload_n 0, 1) := by decide +kernel
theorem dL_fetch_3 : decode cL_fetch 3 = .ok (.iload_n 1, 1) := by decide +kernel
theorem dL_fetch_4 : decode cL_fetch 4 = .ok (.iload_n 2, 1) := by decide +kernel
theorem dL_fetch_5 : decode cL_fetch 5 = .ok (.invokevirtual 31, 3) := by decide +kernel
theorem dL_fetch_8 : decode cL_fetch 8 = .ok (.i2l, 1) := by decide +kernel
theorem dL_fetch_9 : decode cL_fetch 9 = .ok (.lastore, 1) := by decide +kernel
theorem dL_fetch_10 : decode cL_fetch 10 = .ok (.goto 11, 3) := by decide +kernel
theorem dL_fetch_13 : decode cL_fetch 13 = .ok (.astore 4, 2) := by decide +kernel
theorem dL_fetch_15 : decode cL_fetch 15 = .ok (.iconst 1, 1) := by decide +kernel
theorem dL_fetch_16 : decode cL_fetch 16 = .ok (.ireturn, 1) := by decide +kernel
theorem dL_fetch_17 : decode cL_fetch 17 = .ok (.astore 4, 2) := by decide +kernel
theorem dL_fetch_19 : decode cL_fetch 19 = .ok (.iconst 2, 1) := by decide +kernel
theorem dL_fetch_20 : decode cL_fetch 20 = .ok (.ireturn, 1) := by decide +kernel
theorem dL_fetch_21 : decode cL_fetch 21 = .ok (.iconst 0, 1) := by decide +kernel
theorem dL_fetch_22 : decode cL_fetch 22 = .ok (.ireturn, 1) := by decide +kernel
set_option maxRecDepth 20000 in
theorem ggL_proxy_X2_proxy : GoodIn wsL_proxy wsX2_proxy := goodIn_ca (goodIn_ca (goodIn_r _ [7, 8, 9, 10, 11, 12, 13, 6, 14, 15, 16, 17, 18, 19, 20, 21, 22, 23, 24, 25, 26, 27, 28, 29, 30, 31, 32, 33, 34, 35, 36, 37, 38, 39, 40, 41, 42, 43, 44, 45, 46, 47, 48, 49, 50, 51, 52, 53, 54, 55, 56, 57, 58, 59, 60, 61, 62] (by decide +kernel) (by decide +kernel)) (goodIn_sub (fun _ h => List.mem_cons_of_mem _ (List.mem_append_left _ (List.mem_append_right _ h))) (by decide +kernel))) (goodIn_sub (fun _ h => List.mem_cons_of_mem _ (List.mem_append_right _ h)) (by decide +kernel))
set_option maxRecDepth 20000 in
theorem gL_proxy_X2_proxy : GoodIn wsL_proxy (wsV RL 34 RX2 yX2_proxy wsX2_proxy) := goodIn_app (goodIn_of _ (by decide +kernel)) ggL_proxy_X2_proxy
theorem dL_proxy_0 : decode cL_proxy 0 = .ok (.aload 5, 2) := by decide +kernel
theorem dL_proxy_2 : decode cL_proxy 2 = .ok (.iconst 0, 1) := by decide +kernel
theorem dL_proxy_3 : decode cL_proxy 3 = .ok (.aload_n 0, 1) := by decide +kernel
theorem dL_proxy_4 : decode cL_proxy 4 = .ok (.iload_n 1, 1) := by decide +kernel
theorem dL_proxy_5 : decode cL_proxy 5 = .ok (.iload_n 2, 1) := by decide +kernel
theorem dL_proxy_6 : decode cL_proxy 6 = .ok (.iload_n 3, 1) := by decide +kernel
theorem dL_proxy_7 : decode cL_proxy 7 = .ok (.iload 4, 2) := by decide +kernel
theorem dL_proxy_9 : decode cL_proxy 9 = .ok (.invokevirtual 34, 3) := by decide +kernel
theorem dL_proxy_12 : decode cL_proxy 12 = .ok (.i2l, 1) := by decide +kernel
theorem dL_proxy_13 : decode cL_proxy 13 = .ok (.lastore, 1) := by decide +kernel
theorem dL_proxy_14 : decode cL_proxy 14 = .ok (.goto 11, 3) := by decide +kernel
theorem dL_proxy_17 : decode cL_proxy 17 = .ok (.astore 6, 2) := by decide +kernel
theorem dL_proxy_19 : decode cL_proxy 19 = .ok (.iconst 1, 1) := by decide +kernel
theorem dL_proxy_20 : decode cL_proxy 20 = .ok (.ireturn, 1) := by decide +kernel
theorem dL_proxy_21 : decode cL_proxy 21 = .ok (.astore 6, 2) := by decide +kernel
theorem dL_proxy_23 : decode cL_proxy 23 = .ok (.iconst 2, 1) := by decide +kernel
theorem dL_proxy_24 : decode cL_proxy 24 = .ok (.ireturn, 1) := by decide +kernel
theorem dL_proxy_25 : decode cL_proxy 25 = .ok (.iconst 0, 1) := by decide +kernel
theorem dL_proxy_26 : decode cL_proxy 26 = .ok (.ireturn, 1) := by decide +kernel
set_option maxRecDepth 20000 in
theorem ggL_heir_X2_heir : GoodIn wsL_heir wsX2_heir := goodIn_ca (goodIn_r _ [6, 7, 8, 9, 10, 11, 5, 12, 13, 14, 15, 16, 17, 18, 19, 20, 21, 22, 23, 24, 25, 26, 27, 28] (by decide +kernel) (by decide +kernel)) (goodIn_sub (fun _ h => List.mem_cons_of_mem _ (List.mem_append_right _ h)) (by decide +kernel))
set_option maxRecDepth 20000 in
theorem gL_heir_X2_heir : GoodIn wsL_heir (wsV RL 38 RX2 yX2_heir wsX2_heir) := goodIn_app (goodIn_of _ (by decide +kernel)) ggL_heir_X2_heir
theorem dL_heir_0 : decode cL_heir 0 = .ok (.aload 4, 2) := by decide +kernel
theorem dL_heir_2 : decode cL_heir 2 = .ok (.iconst 0, 1) := by decide +kernel
theorem dL_heir_3 : decode cL_heir 3 = .ok (.aload_n 0, 1) := by decide +kernel
theorem dL_heir_4 : decode cL_heir 4 = .ok (.iload_n 1, 1) := by decide +kernel
theorem dL_heir_5 : decode cL_heir 5 = .ok (.iload_n 2, 1) := by decide +kernel
theorem dL_heir_6 : decode cL_heir 6 = .ok (.iload_n 3, 1) := by decide +kernel
theorem dL_heir_7 : decode cL_heir 7 = .ok (.invokevirtual 38, 3) := by decide +kernel
theorem dL_heir_10 : decode cL_heir 10 = .ok (.ifCond .eq 7, 3) := by decide +kernel
theorem dL_heir_13 : decode cL_heir 13 = .ok (.lconst 1, 1) := by decide +kernel
theorem dL_heir_14 : decode cL_heir 14 = .ok (.goto 4, 3) := by decide +kernel
theorem dL_heir_17 : decode cL_heir 17 = .ok (.lconst 0, 1) := by decide +kernel
theorem dL_heir_18 : decode cL_heir 18 = .ok (.lastore, 1) := by decide +kernel
theorem dL_heir_19 : decode cL_heir 19 = .ok (.goto 7, 3) := by decide +kernel
theorem dL_heir_22 : decode cL_heir 22 = .ok (.astore 5, 2) := by decide +kernel
theorem dL_heir_24 : decode cL_heir 24 = .ok (.iconst 1, 1) := by decide +kernel
theorem dL_heir_25 : decode cL_heir 25 = .ok (.ireturn, 1) := by decide +kernel
theorem dL_heir_26 : decode cL_heir 26 = .ok (.iconst 0, 1) := by decide +kernel
theorem dL_heir_27 : decode cL_heir 27 = .ok (.ireturn, 1) := by decide +kernel
set_option maxRecDepth 20000 in
theorem ggL_die_X2_die : GoodIn wsL_die wsX2_die := goodIn_ca (goodIn_ca (goodIn_r _ [7, 8, 9, 10, 11, 12, 13, 6, 14, 15, 16, 17, 18, 19, 20, 21, 22, 23, 24, 25, 26, 27, 28, 29, 30, 31, 32, 33, 34, 35, 36, 37, 38, 39, 40, 41, 42, 43, 44] (by decide +kernel) (by decide +kernel)) (goodIn_sub (fun _ h => List.mem_cons_of_mem _ (List.mem_append_left _ (List.mem_append_right _ h))) (by decide +kernel))) (goodIn_sub (fun _ h => List.mem_cons_of_mem _ (List.mem_append_right _ h)) (by decide +kernel))
set_option maxRecDepth 20000 in
theorem gL_die_X2_die : GoodIn wsL_die (wsV RL 42 RX2 yX2_die wsX2_die) := goodIn_app (goodIn_of _ (by decide +kernel)) ggL_die_X2_die
theorem dL_die_0 : decode cL_die 0 = .ok (.aload_n 2, 1) := by decide +kernel
theorem dL_die_1 : decode cL_die 1 = .ok (.iconst 0, 1) := by decide +kernel
theorem dL_die_2 : decode cL_die 2 = .ok (.aload_n 0, 1) := by decide +kernel
theorem dL_die_3 : decode cL_die 3 = .ok (.iload_n 1, 1) := by decide +kernel
theorem dL_die_4 : decode cL_die 4 = .ok (.invokevirtual 42, 3) := by decide +kernel
theorem dL_die_7 : decode cL_die 7 = .ok (.i2l, 1) := by decide +kernel
theorem dL_die_8 : decode cL_die 8 = .ok (.lastore, 1) := by decide +kernel
theorem dL_die_9 : decode cL_die 9 = .ok (.goto 9, 3) := by decide +kernel
theorem dL_die_12 : decode cL_die 12 = .ok (.astore_n 3, 1) := by decide +kernel
theorem dL_die_13 : decode cL_die 13 = .ok (.iconst 1, 1) := by decide +kernel
theorem dL_die_14 : decode cL_die 14 = .ok (.ireturn, 1) := by decide +kernel
theorem dL_die_15 : decode cL_die 15 = .ok (.astore_n 3, 1) := by decide +kernel
theorem dL_die_16 : decode cL_die 16 = .ok (.iconst 2, 1) := by decide +kernel
theorem dL_die_17 : decode cL_die 17 = .ok (.ireturn, 1) := by decide +kernel
theorem dL_die_18 : decode cL_die 18 = .ok (.iconst 0, 1) := by decide +kernel
theorem dL_die_19 : decode cL_die 19 = .ok (.ireturn, 1) := by decide +kernel
set_option maxRecDepth 20000 in
theorem ggL_order_X2_order : GoodIn wsL_order wsX2_order := goodIn_ca (goodIn_ca (goodIn_r _ [7, 8, 9, 10, 11, 12, 13, 6, 14, 15, 16, 17, 18, 19, 20, 21, 22, 23, 24, 25, 26, 27, 28, 29, 30, 31, 32, 33, 34, 35, 36, 37, 38, 39, 40, 41, 42, 43, 44, 45, 46, 47, 48, 49, 50, 51, 52, 53, 54, 55, 56, 57, 58, 59, 60, 61, 62, 63] (by decide +kernel) (by decide +kernel)) (goodIn_sub (fun _ h => List.mem_cons_of_mem _ (List.mem_append_left _ (List.mem_append_right _ h))) (by decide +kernel))) (goodIn_sub (fun _ h => List.mem_cons_of_mem _ (List.mem_append_right _ h)) (by decide +kernel))
set_option maxRecDepth 20000 in
theorem gL_order_X2_order : GoodIn wsL_order (wsV RL 45 RX2 yX2_order wsX2_order) := goodIn_app (goodIn_of _ (by decide +kernel)) ggL_order_X2_order
theorem dL_order_0 : decode cL_order 0 = .ok (.aload 5, 2) := by decide +kernel
theorem dL_order_2 : decode cL_order 2 = .ok (.iconst 0, 1) := by decide +kernel
theorem dL_order_3 : decode cL_order 3 = .ok (.aload_n 0, 1) := by decide +kernel
theorem dL_order_4 : decode cL_order 4 = .ok (.iload_n 1, 1) := by decide +kernel
theorem dL_order_5 : decode cL_order 5 = .ok (.iload_n 2, 1) := by decide +kernel
theorem dL_order_6 : decode cL_order 6 = .ok (.iload_n 3, 1) := by decide +kernel
theorem dL_order_7 : decode cL_order 7 = .ok (.iload 4, 2) := by decide +kernel
theorem dL_order_9 : decode cL_order 9 = .ok (.invokevirtual 45, 3) := by decide +kernel
theorem dL_order_12 : decode cL_order 12 = .ok (.i2l, 1) := by decide +kernel
theorem dL_order_13 : decode cL_order 13 = .ok (.lastore, 1) := by decide +kernel
theorem dL_order_14 : decode cL_order 14 = .ok (.goto 11, 3) := by decide +kernel
theorem dL_order_17 : decode cL_order 17 = .ok (.astore 6, 2) := by decide +kernel
theorem dL_order_19 : decode cL_order 19 = .ok (.iconst 1, 1) := by decide +kernel
theorem dL_order_20 : decode cL_order 20 = .ok (.ireturn, 1) := by decide +kernel
theorem dL_order_21 : decode cL_order 21 = .ok (.astore 6, 2) := by decide +kernel
theorem dL_order_23 : decode cL_order 23 = .ok (.iconst 2, 1) := by decide +kernel
theorem dL_order_24 : decode cL_order 24 = .ok (.ireturn, 1) := by decide +kernel
theorem dL_order_25 : decode cL_order 25 = .ok (.iconst 0, 1) := by decide +kernel
theorem dL_order_26 : decode cL_order 26 = .ok (.ireturn, 1) := by decide +kernel
set_option maxRecDepth 20000 in
theorem ggL_lift_X2_lift : GoodIn wsL_lift wsX2_lift := goodIn_ca (goodIn_ca (goodIn_r _ [7, 8, 9, 10, 11, 12, 13, 14, 15, 16, 17, 18, 19, 20, 21, 22, 23, 24, 25, 26, 27, 28, 29, 30, 31, 32, 33, 34, 35, 36, 37, 38, 39, 40, 41, 42, 43, 44, 45, 46] (by decide +kernel) (by decide +kernel)) (goodIn_sub (fun _ h => List.mem_cons_of_mem _ (List.mem_append_left _ (List.mem_append_right _ h))) (by decide +kernel))) (goodIn_sub (fun _ h => List.mem_cons_of_mem _ (List.mem_append_right _ h)) (by decide +kernel))
set_option maxRecDepth 20000 in
theorem gL_lift_X2_lift : GoodIn wsL_lift (wsV RL 48 RX2 yX2_lift wsX2_lift) := goodIn_app (goodIn_of _ (by decide +kernel)) ggL_lift_X2_lift
theorem dL_lift_0 : decode cL_lift 0 = .ok (.aload_n 2, 1) := by decide +kernel
theorem dL_lift_1 : decode cL_lift 1 = .ok (.iconst 0, 1) := by decide +kernel
theorem dL_lift_2 : decode cL_lift 2 = .ok (.aload_n 0, 1) := by decide +kernel
theorem dL_lift_3 : decode cL_lift 3 = .ok (.iload_n 1, 1) := by decide +kernel
theorem dL_lift_4 : decode cL_lift 4 = .ok (.invokevirtual 48, 3) := by decide +kernel
theorem dL_lift_7 : decode cL_lift 7 = .ok (.ifCond .eq 7, 3) := by decide +kernel
theorem dL_lift_10 : decode cL_lift 10 = .ok (.lconst 1, 1) := by decide +kernel
theorem dL_lift_11 : decode cL_lift 11 = .ok (.goto 4, 3) := by decide +kernel
theorem dL_lift_14 : decode cL_lift 14 = .ok (.lconst 0, 1) := by decide +kernel
theorem dL_lift_15 : decode cL_lift 15 = .ok (.lastore, 1) := by decide +kernel
theorem dL_lift_16 : decode cL_lift 16 = .ok (.goto 9, 3) := by decide +kernel
theorem dL_lift_19 : decode cL_lift 19 = .ok (.astore_n 3, 1) := by decide +kernel
theorem dL_lift_20 : decode cL_lift 20 = .ok (.iconst 1, 1) := by decide +kernel
theorem dL_lift_21 : decode cL_lift 21 = .ok (.ireturn, 1) := by decide +kernel
theorem dL_lift_22 : decode cL_lift 22 = .ok (.astore_n 3, 1) := by decide +kernel
theorem dL_lift_23 : decode cL_lift 23 = .ok (.iconst 2, 1) := by decide +kernel
theorem dL_lift_24 : decode cL_lift 24 = .ok (.ireturn, 1) := by decide +kernel
theorem dL_lift_25 : decode cL_lift 25 = .ok (.iconst 0, 1) := by decide +kernel
theorem dL_lift_26 : decode cL_lift 26 = .ok (.ireturn, 1) := by decide +kernel
set_option maxRecDepth 20000 in
theorem ggL_enter_X2_enter : GoodIn wsL_enter wsX2_enter := goodIn_ca (goodIn_ca (goodIn_r _ [7, 8, 9, 10, 11, 6, 12, 13, 14, 15, 16, 17, 18, 19, 20, 21, 22, 23, 24, 25, 26, 27, 28, 29, 30, 31, 32, 33, 34, 35, 36, 37, 38, 39, 40, 41, 42, 43, 44, 45, 46, 47, 48, 49, 50, 51, 52, 53, 54, 55, 56, 57, 58, 59, 60, 61, 62, 63, 64, 65, 66, 67, 68, 69, 70, 71, 72, 73, 74, 75, 76, 77, 78, 79, 80, 81, 82, 83, 84, 85, 86, 87, 88, 89, 90, 91, 92, 93, 94, 95, 96, 97, 98, 99, 100, 101, 102, 103, 104, 105, 106, 107, 108, 109, 110, 111, 112, 113, 114, 115, 116, 117, 118, 119, 120, 121, 122, 123, 124, 125, 126] (by decide +kernel) (by decide +kernel)) (goodIn_sub (fun _ h => List.mem_cons_of_mem _ (List.mem_append_left _ (List.mem_append_right _ h))) (by decide +kernel))) (goodIn_sub (fun _ h => List.mem_cons_of_mem _ (List.mem_append_right _ h)) (by decide +kernel))
set_option maxRecDepth 20000 in
theorem gL_enter_X2_enter : GoodIn wsL_enter (wsV RL 54 RX2 yX2_enter wsX2_enter) := goodIn_app (goodIn_of _ (by decide +kernel)) ggL_enter_X2_enter
theorem dL_enter_0 : decode cL_enter 0 = .ok (.aload 4, 2) := by decide +kernel
theorem dL_enter_2 : decode cL_enter 2 = .ok (.iconst 0, 1) := by decide +kernel
theorem dL_enter_3 : decode cL_enter 3 = .ok (.aload_n 0, 1) := by decide +kernel
theorem dL_enter_4 : decode cL_enter 4 = .ok (.iload_n 1, 1) := by decide +kernel
theorem dL_enter_5 : decode cL_enter 5 = .ok (.iload_n 2, 1) := by decide +kernel
theorem dL_enter_6 : decode cL_enter 6 = .ok (.iload_n 3, 1) := by decide +kernel
theorem dL_enter_7 : decode cL_enter 7 = .ok (.invokevirtual 54, 3) := by decide +kernel
theorem dL_enter_10 : decode cL_enter 10 = .ok (.i2l, 1) := by decide +kernel
theorem dL_enter_11 : decode cL_enter 11 = .ok (.lastore, 1) := by decide +kernel
theorem dL_enter_12 : decode cL_enter 12 = .ok (.goto 11, 3) := by decide +kernel
theorem dL_enter_15 : decode cL_enter 15 = .ok (.astore 5, 2) := by decide +kernel
theorem dL_enter_17 : decode cL_enter 17 = .ok (.iconst 1, 1) := by decide +kernel
theorem dL_enter_18 : decode cL_enter 18 = .ok (.ireturn, 1) := by decide +kernel
theorem dL_enter_19 : decode cL_enter 19 = .ok (.astore 5, 2) := by decide +kernel
theorem dL_enter_21 : decode cL_enter 21 = .ok (.iconst 2, 1) := by decide +kernel
theorem dL_enter_22 : decode cL_enter 22 = .ok (.ireturn, 1) := by decide +kernel
theorem dL_enter_23 : decode cL_enter 23 = .ok (.iconst 0, 1) := by decide +kernel
theorem dL_enter_24 : decode cL_enter 24 = .ok (.ireturn, 1) := by decide +kernel
set_option maxRecDepth 20000 in
theorem ggL_may_X2_may : GoodIn wsL_may wsX2_may := goodIn_ca (goodIn_r _ [6, 7, 8, 9, 5, 10, 11, 12, 13, 14, 15, 16, 17, 18, 19, 20, 21, 22, 23, 24, 25, 26, 27, 28, 29, 30, 31, 32, 33, 34, 35, 36, 37, 38, 39, 40, 41, 42, 43, 44, 45, 46, 47, 48, 49, 50, 51, 52, 53, 54, 55, 56, 57, 58, 59, 60, 61, 62, 63, 64, 65, 66, 67, 68, 69, 70, 71, 72, 73, 74, 75, 76, 77, 78, 79, 80, 81, 82, 83, 84, 85, 86, 87, 88, 89, 90, 91, 92, 93, 94, 95, 96, 97, 98, 99, 100, 101, 102, 103, 104, 105, 106, 107, 108, 109, 110, 111, 112, 113, 114, 115, 116, 117, 118, 119] (by decide +kernel) (by decide +kernel)) (goodIn_sub (fun _ h => List.mem_cons_of_mem _ (List.mem_append_right _ h)) (by decide +kernel))
set_option maxRecDepth 20000 in
theorem gL_may_X2_may : GoodIn wsL_may (wsV RL 57 RX2 yX2_may wsX2_may) := goodIn_app (goodIn_of _ (by decide +kernel)) ggL_may_X2_may
theorem dL_may_0 : decode cL_may 0 = .ok (.aload_n 3, 1) := by decide +kernel
theorem dL_may_1 : decode cL_may 1 = .ok (.iconst 0, 1) := by decide +kernel
theorem dL_may_2 : decode cL_may 2 = .ok (.aload_n 0, 1) := by decide +kernel
theorem dL_may_3 : decode cL_may 3 = .ok (.iload_n 1, 1) := by decide +kernel
theorem dL_may_4 : decode cL_may 4 = .ok (.iload_n 2, 1) := by decide +kernel
theorem dL_may_5 : decode cL_may 5 = .ok (.invokevirtual 57, 3) := by decide +kernel
theorem dL_may_8 : decode cL_may 8 = .ok (.i2l, 1) := by decide +kernel
theorem dL_may_9 : decode cL_may 9 = .ok (.lastore, 1) := by decide +kernel
theorem dL_may_10 : decode cL_may 10 = .ok (.goto 7, 3) := by decide +kernel
theorem dL_may_13 : decode cL_may 13 = .ok (.astore 4, 2) := by decide +kernel
theorem dL_may_15 : decode cL_may 15 = .ok (.iconst 1, 1) := by decide +kernel
theorem dL_may_16 : decode cL_may 16 = .ok (.ireturn, 1) := by decide +kernel
theorem dL_may_17 : decode cL_may 17 = .ok (.iconst 0, 1) := by decide +kernel
theorem dL_may_18 : decode cL_may 18 = .ok (.ireturn, 1) := by decide +kernel
set_option maxRecDepth 20000 in
theorem ggL_mayAll_X2_mayAll : GoodIn wsL_mayAll wsX2_mayAll := goodIn_ca (goodIn_r _ [6, 7, 8, 9, 5, 10, 11, 12, 13, 14, 15, 16, 17, 18, 19, 20, 21, 22, 23, 24, 25, 26, 27, 28, 29, 30, 31, 32, 33, 34, 35, 36, 37, 38, 39, 40, 41, 42, 43, 44, 45, 46, 47, 48, 49, 50, 51, 52, 53, 54, 55, 56, 57, 58, 59, 60, 61, 62, 63, 64, 65, 66, 67, 68, 69, 70, 71, 72, 73, 74, 75, 76, 77, 78, 79, 80, 81, 82, 83, 84, 85, 86, 87, 88, 89, 90, 91, 92, 93, 94, 95, 96, 97, 98, 99, 100, 101, 102, 103, 104, 105, 106, 107, 108, 109, 110, 111, 112, 113, 114, 115, 116] (by decide +kernel) (by decide +kernel)) (goodIn_sub (fun _ h => List.mem_cons_of_mem _ (List.mem_append_right _ h)) (by decide +kernel))
set_option maxRecDepth 20000 in
theorem gL_mayAll_X2_mayAll : GoodIn wsL_mayAll (wsV RL 60 RX2 yX2_mayAll wsX2_mayAll) := goodIn_app (goodIn_of _ (by decide +kernel)) ggL_mayAll_X2_mayAll
theorem dL_mayAll_0 : decode cL_mayAll 0 = .ok (.aload_n 2, 1) := by decide +kernel
theorem dL_mayAll_1 : decode cL_mayAll 1 = .ok (.iconst 0, 1) := by decide +kernel
theorem dL_mayAll_2 : decode cL_mayAll 2 = .ok (.aload_n 0, 1) := by decide +kernel
theorem dL_mayAll_3 : decode cL_mayAll 3 = .ok (.iload_n 1, 1) := by decide +kernel
theorem dL_mayAll_4 : decode cL_mayAll 4 = .ok (.invokevirtual 60, 3) := by decide +kernel
theorem dL_mayAll_7 : decode cL_mayAll 7 = .ok (.i2l, 1) := by decide +kernel
theorem dL_mayAll_8 : decode cL_mayAll 8 = .ok (.lastore, 1) := by decide +kernel
theorem dL_mayAll_9 : decode cL_mayAll 9 = .ok (.goto 6, 3) := by decide +kernel
theorem dL_mayAll_12 : decode cL_mayAll 12 = .ok (.astore_n 3, 1) := by decide +kernel
theorem dL_mayAll_13 : decode cL_mayAll 13 = .ok (.iconst 1, 1) := by decide +kernel
theorem dL_mayAll_14 : decode cL_mayAll 14 = .ok (.ireturn, 1) := by decide +kernel
theorem dL_mayAll_15 : decode cL_mayAll 15 = .ok (.iconst 0, 1) := by decide +kernel
theorem dL_mayAll_16 : decode cL_mayAll 16 = .ok (.ireturn, 1) := by decide +kernel
set_option maxRecDepth 20000 in
theorem ggL_holder_X2_holder : GoodIn wsL_holder wsX2_holder := goodIn_ca (goodIn_r _ [6, 7, 8, 9, 5, 10, 11, 12, 13, 14, 15, 16, 17, 18, 19, 20, 21, 22, 23, 24, 25, 26, 27, 28, 29, 30, 31, 32] (by decide +kernel) (by decide +kernel)) (goodIn_sub (fun _ h => List.mem_cons_of_mem _ (List.mem_append_right _ h)) (by decide +kernel))
set_option maxRecDepth 20000 in
theorem gL_holder_X2_holder : GoodIn wsL_holder (wsV RL 63 RX2 yX2_holder wsX2_holder) := goodIn_app (goodIn_of _ (by decide +kernel)) ggL_holder_X2_holder
theorem dL_holder_0 : decode cL_holder 0 = .ok (.aload_n 2, 1) := by decide +kernel
theorem dL_holder_1 : decode cL_holder 1 = .ok (.iconst 0, 1) := by decide +kernel
theorem dL_holder_2 : decode cL_holder 2 = .ok (.aload_n 0, 1) := by decide +kernel
theorem dL_holder_3 : decode cL_holder 3 = .ok (.iload_n 1, 1) := by decide +kernel
theorem dL_holder_4 : decode cL_holder 4 = .ok (.invokevirtual 63, 3) := by decide +kernel
theorem dL_holder_7 : decode cL_holder 7 = .ok (.i2l, 1) := by decide +kernel
theorem dL_holder_8 : decode cL_holder 8 = .ok (.lastore, 1) := by decide +kernel
theorem dL_holder_9 : decode cL_holder 9 = .ok (.goto 6, 3) := by decide +kernel
theorem dL_holder_12 : decode cL_holder 12 = .ok (.astore_n 3, 1) := by decide +kernel
theorem dL_holder_13 : decode cL_holder 13 = .ok (.iconst 1, 1) := by decide +kernel
theorem dL_holder_14 : decode cL_holder 14 = .ok (.ireturn, 1) := by decide +kernel
theorem dL_holder_15 : decode cL_holder 15 = .ok (.iconst 0, 1) := by decide +kernel
theorem dL_holder_16 : decode cL_holder 16 = .ok (.ireturn, 1) := by decide +kernel
set_option maxRecDepth 20000 in
theorem ggL_notices_X2_notices : GoodIn wsL_notices wsX2_notices := goodIn_ca (goodIn_r _ [6, 7, 8, 9, 10, 5, 11, 12, 13, 14, 15, 16, 17, 18, 19, 20, 21, 22, 23, 24, 25, 26, 27, 28, 29, 30, 31, 32, 33, 34, 35, 36, 37, 38, 39, 40, 41, 42, 43, 44, 45, 46, 47, 48, 49, 50, 51, 52, 53] (by decide +kernel) (by decide +kernel)) (goodIn_sub (fun _ h => List.mem_cons_of_mem _ (List.mem_append_right _ h)) (by decide +kernel))
set_option maxRecDepth 20000 in
theorem gL_notices_X2_notices : GoodIn wsL_notices (wsV RL 66 RX2 yX2_notices wsX2_notices) := goodIn_app (goodIn_of _ (by decide +kernel)) ggL_notices_X2_notices
theorem dL_notices_0 : decode cL_notices 0 = .ok (.aload_n 2, 1) := by decide +kernel
theorem dL_notices_1 : decode cL_notices 1 = .ok (.iconst 0, 1) := by decide +kernel
theorem dL_notices_2 : decode cL_notices 2 = .ok (.aload_n 0, 1) := by decide +kernel
theorem dL_notices_3 : decode cL_notices 3 = .ok (.iload_n 1, 1) := by decide +kernel
theorem dL_notices_4 : decode cL_notices 4 = .ok (.invokevirtual 66, 3) := by decide +kernel
theorem dL_notices_7 : decode cL_notices 7 = .ok (.i2l, 1) := by decide +kernel
theorem dL_notices_8 : decode cL_notices 8 = .ok (.lastore, 1) := by decide +kernel
theorem dL_notices_9 : decode cL_notices 9 = .ok (.goto 6, 3) := by decide +kernel
theorem dL_notices_12 : decode cL_notices 12 = .ok (.astore_n 3, 1) := by decide +kernel
theorem dL_notices_13 : decode cL_notices 13 = .ok (.iconst 1, 1) := by decide +kernel
theorem dL_notices_14 : decode cL_notices 14 = .ok (.ireturn, 1) := by decide +kernel
theorem dL_notices_15 : decode cL_notices 15 = .ok (.iconst 0, 1) := by decide +kernel
theorem dL_notices_16 : decode cL_notices 16 = .ok (.ireturn, 1) := by decide +kernel
set_option maxRecDepth 20000 in
theorem ggL_refusals_X2_refusals : GoodIn wsL_refusals wsX2_refusals := goodIn_ca (goodIn_r _ [6, 7, 8, 9, 5, 10, 11, 12, 13, 14, 15, 16, 17, 18, 19, 20, 21] (by decide +kernel) (by decide +kernel)) (goodIn_sub (fun _ h => List.mem_cons_of_mem _ (List.mem_append_right _ h)) (by decide +kernel))
set_option maxRecDepth 20000 in
theorem gL_refusals_X2_refusals : GoodIn wsL_refusals (wsV RL 69 RX2 yX2_refusals wsX2_refusals) := goodIn_app (goodIn_of _ (by decide +kernel)) ggL_refusals_X2_refusals
theorem dL_refusals_0 : decode cL_refusals 0 = .ok (.aload_n 2, 1) := by decide +kernel
theorem dL_refusals_1 : decode cL_refusals 1 = .ok (.iconst 0, 1) := by decide +kernel
theorem dL_refusals_2 : decode cL_refusals 2 = .ok (.aload_n 0, 1) := by decide +kernel
theorem dL_refusals_3 : decode cL_refusals 3 = .ok (.iload_n 1, 1) := by decide +kernel
theorem dL_refusals_4 : decode cL_refusals 4 = .ok (.invokevirtual 69, 3) := by decide +kernel
theorem dL_refusals_7 : decode cL_refusals 7 = .ok (.i2l, 1) := by decide +kernel
theorem dL_refusals_8 : decode cL_refusals 8 = .ok (.lastore, 1) := by decide +kernel
theorem dL_refusals_9 : decode cL_refusals 9 = .ok (.goto 6, 3) := by decide +kernel
theorem dL_refusals_12 : decode cL_refusals 12 = .ok (.astore_n 3, 1) := by decide +kernel
theorem dL_refusals_13 : decode cL_refusals 13 = .ok (.iconst 1, 1) := by decide +kernel
theorem dL_refusals_14 : decode cL_refusals 14 = .ok (.ireturn, 1) := by decide +kernel
theorem dL_refusals_15 : decode cL_refusals 15 = .ok (.iconst 0, 1) := by decide +kernel
theorem dL_refusals_16 : decode cL_refusals 16 = .ok (.ireturn, 1) := by decide +kernel
set_option maxRecDepth 20000 in
theorem ggL_binding_X2_binding : GoodIn wsL_binding wsX2_binding := goodIn_ca (goodIn_r _ [6, 7, 8, 9, 5, 10, 11, 12, 13, 14, 15, 16, 17, 18, 19, 20, 21, 22, 23, 24, 25, 26, 27, 28, 29, 30, 31, 32] (by decide +kernel) (by decide +kernel)) (goodIn_sub (fun _ h => List.mem_cons_of_mem _ (List.mem_append_right _ h)) (by decide +kernel))
set_option maxRecDepth 20000 in
theorem gL_binding_X2_binding : GoodIn wsL_binding (wsV RL 72 RX2 yX2_binding wsX2_binding) := goodIn_app (goodIn_of _ (by decide +kernel)) ggL_binding_X2_binding
theorem dL_binding_0 : decode cL_binding 0 = .ok (.aload_n 2, 1) := by decide +kernel
theorem dL_binding_1 : decode cL_binding 1 = .ok (.iconst 0, 1) := by decide +kernel
theorem dL_binding_2 : decode cL_binding 2 = .ok (.aload_n 0, 1) := by decide +kernel
theorem dL_binding_3 : decode cL_binding 3 = .ok (.iload_n 1, 1) := by decide +kernel
theorem dL_binding_4 : decode cL_binding 4 = .ok (.invokevirtual 72, 3) := by decide +kernel
theorem dL_binding_7 : decode cL_binding 7 = .ok (.i2l, 1) := by decide +kernel
theorem dL_binding_8 : decode cL_binding 8 = .ok (.lastore, 1) := by decide +kernel
theorem dL_binding_9 : decode cL_binding 9 = .ok (.goto 6, 3) := by decide +kernel
theorem dL_binding_12 : decode cL_binding 12 = .ok (.astore_n 3, 1) := by decide +kernel
theorem dL_binding_13 : decode cL_binding 13 = .ok (.iconst 1, 1) := by decide +kernel
theorem dL_binding_14 : decode cL_binding 14 = .ok (.ireturn, 1) := by decide +kernel
theorem dL_binding_15 : decode cL_binding 15 = .ok (.iconst 0, 1) := by decide +kernel
theorem dL_binding_16 : decode cL_binding 16 = .ok (.ireturn, 1) := by decide +kernel
end
section
set_option maxRecDepth 20000 in
theorem ggL_law_X2_init : GoodIn wsL_law wsX2_init := goodIn_r _ [9, 10, 11, 12, 13, 14, 15, 16, 17, 18, 19, 20, 21, 22, 23, 24, 25, 26, 27, 28, 29, 30, 31, 32, 33, 34, 35, 36, 37, 38, 39, 40, 41, 42, 43, 44, 45, 46, 47, 48, 460, 461, 462, 463, 464, 465, 487, 488, 489, 490, 491, 492, 493, 494, 495, 496, 497, 498, 499, 500, 501, 502] (by decide +kernel) (by decide +kernel)
set_option maxRecDepth 20000 in
theorem gL_law_X2_init : GoodIn wsL_law (wsX2_init) := ggL_law_X2_init
set_option maxRecDepth 20000 in
theorem ggL_law_X3_init : GoodIn wsL_law wsX3_init := goodIn_r _ [51, 52, 11, 12, 19, 53, 21, 54, 55, 56, 57, 58, 59, 60, 61, 62, 63, 64, 65, 66, 67, 68, 69, 70, 466, 467, 468, 469, 470, 471, 472, 473, 474, 475, 476, 477, 478, 479, 480, 481, 482, 483, 484, 485, 486] (by decide +kernel) (by decide +kernel)
set_option maxRecDepth 20000 in
theorem gL_law_X3_init : GoodIn wsL_law (wsX3_init) := ggL_law_X3_init
set_option maxRecDepth 20000 in
theorem ggL_law_L_pass : GoodIn wsL_law wsL_pass := goodIn_ca (goodIn_ca (goodIn_r _ [74, 75, 76, 77, 78, 79, 2, 80, 81, 82, 83, 24, 84, 85, 86, 87, 88, 460, 461, 462, 463, 464, 465] (by decide +kernel) (by decide +kernel)) (goodIn_sub (fun _ h => List.mem_append_left _ (List.mem_append_left _ (List.mem_append_right _ h))) (by decide +kernel))) (goodIn_sub (fun _ h => List.mem_append_left _ (List.mem_append_right _ h)) (by decide +kernel))
set_option maxRecDepth 20000 in
theorem gL_law_L_pass : GoodIn wsL_law (va_wsS RL 79 yL_pass wsL_pass) := goodIn_app (goodIn_of _ (by decide +kernel)) ggL_law_L_pass
set_option maxRecDepth 20000 in
theorem ggL_law_X3_pass : GoodIn wsL_law wsX3_pass := goodIn_r _ [92, 93, 94, 95, 96, 97, 5, 98, 99, 100, 101, 102, 466, 467, 468, 469, 470, 471, 472, 473, 474, 475, 476, 477, 478, 479, 480, 481, 482, 483, 484, 485, 486] (by decide +kernel) (by decide +kernel)
set_option maxRecDepth 20000 in
theorem gL_law_X3_pass : GoodIn wsL_law (wsV RL 84 RX3 yX3_pass wsX3_pass) := goodIn_app (goodIn_of _ (by decide +kernel)) ggL_law_X3_pass
set_option maxRecDepth 20000 in
theorem ggL_law_X3_thrown : GoodIn wsL_law wsX3_thrown := goodIn_r _ [106, 93, 466, 467, 468, 469, 470, 471, 472, 473, 474, 475, 476, 477, 478, 479, 480, 481, 482, 483, 484, 485, 486] (by decide +kernel) (by decide +kernel)
set_option maxRecDepth 20000 in
theorem gL_law_X3_thrown : GoodIn wsL_law (wsV RL 85 RX3 yX3_thrown wsX3_thrown) := goodIn_app (goodIn_of _ (by decide +kernel)) ggL_law_X3_thrown
set_option maxRecDepth 20000 in
theorem ggL_law_L_rent : GoodIn wsL_law wsL_rent := goodIn_ca (goodIn_ca (goodIn_r _ [109, 75, 76, 110, 111, 112, 2, 113, 81, 82, 24, 114, 115, 116, 117, 14, 84, 85, 86, 87, 88, 118, 119, 120, 121, 26, 122, 123, 39, 124, 125, 126, 127, 20, 128, 129, 130, 131, 132, 133, 40, 41, 43, 44, 460, 461, 462, 463, 464, 465, 493, 494, 495, 496, 497, 498, 499, 500, 501, 502] (by decide +kernel) (by decide +kernel)) (goodIn_sub (fun _ h => List.mem_append_left _ (List.mem_append_left _ (List.mem_append_right _ h))) (by decide +kernel))) (goodIn_sub (fun _ h => List.mem_append_left _ (List.mem_append_right _ h)) (by decide +kernel))
set_option maxRecDepth 20000 in
theorem gL_law_L_rent : GoodIn wsL_law (va_wsS RL 89 yL_rent wsL_rent) := goodIn_app (goodIn_of _ (by decide +kernel)) ggL_law_L_rent
set_option maxRecDepth 20000 in
theorem ggL_law_X3_rent : GoodIn wsL_law wsX3_rent := goodIn_r _ [137, 93, 56, 53, 57, 58, 94, 59, 60, 138, 139, 5, 140, 96, 97, 98, 141, 142, 143, 99, 100, 101, 102, 466, 467, 468, 469, 470, 471, 472, 473, 474, 475, 476, 477, 478, 479, 480, 481, 482, 483, 484, 485, 486] (by decide +kernel) (by decide +kernel)
set_option maxRecDepth 20000 in
theorem gL_law_X3_rent : GoodIn wsL_law (wsV RL 92 RX3 yX3_rent wsX3_rent) := goodIn_app (goodIn_of _ (by decide +kernel)) ggL_law_X3_rent
set_option maxRecDepth 20000 in
theorem ggL_law_L_extend : GoodIn wsL_law wsL_extend := goodIn_ca (goodIn_ca (goodIn_r _ [146, 75, 76, 147, 148, 149, 2, 150, 114, 115, 116, 117, 14, 84, 85, 86, 87, 88, 151, 152, 153, 81, 82, 154, 26, 155, 156, 39, 493, 494, 495, 496, 497, 498, 499, 500, 501, 502, 460, 461, 462, 463, 464, 465] (by decide +kernel) (by decide +kernel)) (goodIn_sub (fun _ h => List.mem_append_left _ (List.mem_append_right _ h)) (by decide +kernel))) (goodIn_sub (fun _ h => List.mem_append_left _ (List.mem_append_left _ (List.mem_append_right _ h))) (by decide +kernel))
set_option maxRecDepth 20000 in
theorem gL_law_L_extend : GoodIn wsL_law (va_wsS RL 93 yL_extend wsL_extend) := goodIn_app (goodIn_of _ (by decide +kernel)) ggL_law_L_extend
set_option maxRecDepth 20000 in
theorem ggL_law_X3_extend : GoodIn wsL_law wsX3_extend := goodIn_r _ [160, 93, 58, 138, 139, 5, 140, 96, 97, 98, 99, 100, 101, 102, 161, 162, 163, 164, 56, 466, 467, 468, 469, 470, 471, 472, 473, 474, 475, 476, 477, 478, 479, 480, 481, 482, 483, 484, 485, 486] (by decide +kernel) (by decide +kernel)
set_option maxRecDepth 20000 in
theorem gL_law_X3_extend : GoodIn wsL_law (wsV RL 96 RX3 yX3_extend wsX3_extend) := goodIn_app (goodIn_of _ (by decide +kernel)) ggL_law_X3_extend
set_option maxRecDepth 20000 in
theorem ggL_law_L_giveBack : GoodIn wsL_law wsL_giveBack := goodIn_ca (goodIn_ca (goodIn_r _ [167, 75, 76, 168, 169, 170, 2, 171, 81, 82, 114, 115, 116, 117, 14, 84, 85, 86, 87, 88, 118, 119, 120, 151, 152, 153, 154, 26, 155, 156, 39, 172, 173, 174, 175, 18, 124, 125, 126, 127, 20, 128, 129, 130, 176, 17, 177, 178, 30, 35, 31, 32, 179, 180, 181, 182, 183, 184, 185, 33, 186, 187, 188, 189, 190, 191, 192, 34, 193, 194, 195, 196, 197, 198, 199, 200, 22, 201, 202, 203, 204, 24, 205, 206, 207, 208, 209, 210, 211, 212, 213, 214, 215, 41, 216, 217, 218, 219, 220, 221, 45, 46, 47, 48, 222, 223, 224, 225, 226, 227, 228, 40, 229, 230, 231, 232, 233, 234, 235, 493, 494, 495, 496, 497, 498, 499, 500, 501, 502, 460, 461, 462, 463, 464, 465, 487, 488, 489, 490, 491, 492] (by decide +kernel) (by decide +kernel)) (goodIn_sub (fun _ h => List.mem_append_left _ (List.mem_append_left _ (List.mem_append_right _ h))) (by decide +kernel))) (goodIn_sub (fun _ h => List.mem_append_left _ (List.mem_append_right _ h)) (by decide +kernel))
set_option maxRecDepth 20000 in
theorem gL_law_L_giveBack : GoodIn wsL_law (va_wsS RL 97 yL_giveBack wsL_giveBack) := goodIn_app (goodIn_of _ (by decide +kernel)) ggL_law_L_giveBack
set_option maxRecDepth 20000 in
theorem ggL_law_X3_giveBack : GoodIn wsL_law wsX3_giveBack := goodIn_r _ [239, 93, 59, 138, 139, 5, 140, 96, 97, 98, 141, 142, 143, 99, 100, 101, 102, 240, 241, 242, 243, 53, 57, 60, 161, 162, 163, 164, 56, 244, 245, 246, 247, 248, 70, 66, 67, 249, 250, 251, 252, 68, 69, 253, 254, 255, 256, 54, 257, 258, 259, 260, 261, 262, 263, 264, 94, 58, 265, 266, 267, 268, 62, 63, 64, 65, 269, 270, 271, 272, 466, 467, 468, 469, 470, 471, 472, 473, 474, 475, 476, 477, 478, 479, 480, 481, 482, 483, 484, 485, 486] (by decide +kernel) (by decide +kernel)
set_option maxRecDepth 20000 in
theorem gL_law_X3_giveBack : GoodIn wsL_law (wsV RL 99 RX3 yX3_giveBack wsX3_giveBack) := goodIn_app (goodIn_of _ (by decide +kernel)) ggL_law_X3_giveBack
set_option maxRecDepth 20000 in
theorem ggL_law_L_drill : GoodIn wsL_law wsL_drill := goodIn_ca (goodIn_ca (goodIn_r _ [275, 75, 76, 276, 277, 278, 2, 279, 87, 88, 81, 82, 24, 18, 114, 115, 116, 117, 14, 84, 85, 86, 118, 119, 120, 151, 152, 153, 154, 26, 155, 156, 39, 205, 206, 207, 208, 209, 210, 211, 212, 213, 214, 215, 41, 216, 217, 218, 280, 281, 282, 283, 124, 125, 126, 127, 20, 128, 129, 130, 176, 17, 177, 178, 30, 35, 31, 32, 183, 184, 185, 33, 186, 187, 188, 189, 284, 285, 286, 42, 460, 461, 462, 463, 464, 465, 493, 494, 495, 496, 497, 498, 499, 500, 501, 502, 487, 488, 489, 490, 491, 492] (by decide +kernel) (by decide +kernel)) (goodIn_sub (fun _ h => List.mem_append_left _ (List.mem_append_right _ h)) (by decide +kernel))) (goodIn_sub (fun _ h => List.mem_append_left _ (List.mem_append_left _ (List.mem_append_right _ h))) (by decide +kernel))
set_option maxRecDepth 20000 in
theorem gL_law_L_drill : GoodIn wsL_law (va_wsS RL 100 yL_drill wsL_drill) := goodIn_app (goodIn_of _ (by decide +kernel)) ggL_law_L_drill
set_option maxRecDepth 20000 in
theorem ggL_law_X3_drill : GoodIn wsL_law wsX3_drill := goodIn_r _ [290, 93, 53, 57, 68, 61, 56, 138, 139, 5, 140, 96, 97, 98, 141, 142, 143, 99, 100, 101, 102, 244, 245, 246, 247, 248, 70, 66, 67, 257, 258, 259, 260, 261, 262, 263, 264, 94, 58, 161, 162, 163, 164, 466, 467, 468, 469, 470, 471, 472, 473, 474, 475, 476, 477, 478, 479, 480, 481, 482, 483, 484, 485, 486] (by decide +kernel) (by decide +kernel)
set_option maxRecDepth 20000 in
theorem gL_law_X3_drill : GoodIn wsL_law (wsV RL 102 RX3 yX3_drill wsX3_drill) := goodIn_app (goodIn_of _ (by decide +kernel)) ggL_law_X3_drill
set_option maxRecDepth 20000 in
theorem ggL_law_L_fetch : GoodIn wsL_law wsL_fetch := goodIn_ca (goodIn_ca (goodIn_r _ [293, 75, 76, 294, 295, 296, 2, 297, 81, 82, 114, 115, 116, 117, 14, 84, 85, 86, 87, 88, 118, 119, 120, 298, 299, 300, 301, 18, 124, 125, 126, 127, 20, 128, 129, 130, 176, 17, 177, 178, 30, 35, 31, 32, 179, 180, 181, 182, 183, 184, 185, 33, 186, 187, 188, 189, 190, 191, 192, 34, 193, 194, 195, 196, 197, 198, 199, 200, 22, 222, 223, 224, 225, 226, 26, 227, 228, 39, 40, 229, 230, 231, 232, 45, 233, 234, 235, 493, 494, 495, 496, 497, 498, 499, 500, 501, 502, 460, 461, 462, 463, 464, 465, 487, 488, 489, 490, 491, 492] (by decide +kernel) (by decide +kernel)) (goodIn_sub (fun _ h => List.mem_append_left _ (List.mem_append_left _ (List.mem_append_right _ h))) (by decide +kernel))) (goodIn_sub (fun _ h => List.mem_append_left _ (List.mem_append_right _ h)) (by decide +kernel))
set_option maxRecDepth 20000 in
theorem gL_law_L_fetch : GoodIn wsL_law (va_wsS RL 103 yL_fetch wsL_fetch) := goodIn_app (goodIn_of _ (by decide +kernel)) ggL_law_L_fetch
set_option maxRecDepth 20000 in
theorem ggL_law_X3_fetch : GoodIn wsL_law wsX3_fetch := goodIn_r _ [305, 93, 56, 53, 57, 61, 138, 139, 5, 140, 96, 97, 98, 141, 142, 143, 99, 100, 101, 102, 244, 245, 246, 247, 248, 70, 66, 67, 249, 250, 251, 252, 68, 69, 253, 254, 255, 256, 54, 269, 270, 271, 272, 62, 466, 467, 468, 469, 470, 471, 472, 473, 474, 475, 476, 477, 478, 479, 480, 481, 482, 483, 484, 485, 486] (by decide +kernel) (by decide +kernel)
set_option maxRecDepth 20000 in
theorem gL_law_X3_fetch : GoodIn wsL_law (wsV RL 105 RX3 yX3_fetch wsX3_fetch) := goodIn_app (goodIn_of _ (by decide +kernel)) ggL_law_X3_fetch
set_option maxRecDepth 20000 in
theorem ggL_law_L_proxy : GoodIn wsL_law wsL_proxy := goodIn_ca (goodIn_ca (goodIn_r _ [308, 75, 76, 309, 310, 311, 2, 312, 81, 82, 83, 114, 115, 116, 117, 14, 84, 85, 86, 87, 88, 118, 119, 120, 151, 152, 153, 154, 26, 155, 156, 39, 124, 125, 126, 127, 20, 128, 129, 130, 313, 314, 315, 45, 46, 47, 48, 493, 494, 495, 496, 497, 498, 499, 500, 501, 502, 460, 461, 462, 463, 464, 465] (by decide +kernel) (by decide +kernel)) (goodIn_sub (fun _ h => List.mem_append_left _ (List.mem_append_left _ (List.mem_append_right _ h))) (by decide +kernel))) (goodIn_sub (fun _ h => List.mem_append_left _ (List.mem_append_right _ h)) (by decide +kernel))
set_option maxRecDepth 20000 in
theorem gL_law_L_proxy : GoodIn wsL_law (va_wsS RL 106 yL_proxy wsL_proxy) := goodIn_app (goodIn_of _ (by decide +kernel)) ggL_law_L_proxy
set_option maxRecDepth 20000 in
theorem ggL_law_X3_proxy : GoodIn wsL_law wsX3_proxy := goodIn_r _ [319, 93, 95, 53, 57, 62, 63, 64, 65, 138, 139, 5, 140, 96, 97, 98, 141, 142, 143, 99, 100, 101, 102, 161, 162, 163, 164, 56, 466, 467, 468, 469, 470, 471, 472, 473, 474, 475, 476, 477, 478, 479, 480, 481, 482, 483, 484, 485, 486] (by decide +kernel) (by decide +kernel)
set_option maxRecDepth 20000 in
theorem gL_law_X3_proxy : GoodIn wsL_law (wsV RL 109 RX3 yX3_proxy wsX3_proxy) := goodIn_app (goodIn_of _ (by decide +kernel)) ggL_law_X3_proxy
set_option maxRecDepth 20000 in
theorem ggL_law_L_heir : GoodIn wsL_law wsL_heir := goodIn_ca (goodIn_r _ [322, 75, 323, 324, 325, 2, 326, 87, 88, 22, 118, 119, 120, 84, 85, 86, 197, 198, 199, 200, 128, 129, 130, 460, 461, 462, 463, 464, 465] (by decide +kernel) (by decide +kernel)) (goodIn_sub (fun _ h => List.mem_append_left _ (List.mem_append_right _ h)) (by decide +kernel))
set_option maxRecDepth 20000 in
theorem gL_law_L_heir : GoodIn wsL_law (va_wsS RL 110 yL_heir wsL_heir) := goodIn_app (goodIn_of _ (by decide +kernel)) ggL_law_L_heir
set_option maxRecDepth 20000 in
theorem ggL_law_X3_heir : GoodIn wsL_law wsX3_heir := goodIn_r _ [330, 93, 54, 141, 142, 5, 143, 96, 97, 98, 253, 254, 255, 256, 466, 467, 468, 469, 470, 471, 472, 473, 474, 475, 476, 477, 478, 479, 480, 481, 482, 483, 484, 485, 486] (by decide +kernel) (by decide +kernel)
set_option maxRecDepth 20000 in
theorem gL_law_X3_heir : GoodIn wsL_law (wsV RL 113 RX3 yX3_heir wsX3_heir) := goodIn_app (goodIn_of _ (by decide +kernel)) ggL_law_X3_heir
set_option maxRecDepth 20000 in
theorem ggL_law_L_die : GoodIn wsL_law wsL_die := goodIn_ca (goodIn_ca (goodIn_r _ [333, 75, 76, 334, 335, 336, 2, 337, 81, 82, 20, 14, 118, 119, 120, 84, 85, 86, 87, 88, 230, 26, 231, 232, 45, 154, 155, 156, 39, 460, 461, 462, 463, 464, 465, 493, 494, 495, 496, 497, 498, 499, 500, 501, 502] (by decide +kernel) (by decide +kernel)) (goodIn_sub (fun _ h => List.mem_append_left _ (List.mem_append_left _ (List.mem_append_right _ h))) (by decide +kernel))) (goodIn_sub (fun _ h => List.mem_append_left _ (List.mem_append_right _ h)) (by decide +kernel))
set_option maxRecDepth 20000 in
theorem gL_law_L_die : GoodIn wsL_law (va_wsS RL 114 yL_die wsL_die) := goodIn_app (goodIn_of _ (by decide +kernel)) ggL_law_L_die
set_option maxRecDepth 20000 in
theorem ggL_law_X3_die : GoodIn wsL_law wsX3_die := goodIn_r _ [341, 93, 53, 56, 57, 62, 141, 142, 5, 143, 96, 97, 98, 99, 100, 101, 102, 161, 162, 163, 164, 466, 467, 468, 469, 470, 471, 472, 473, 474, 475, 476, 477, 478, 479, 480, 481, 482, 483, 484, 485, 486] (by decide +kernel) (by decide +kernel)
set_option maxRecDepth 20000 in
theorem gL_law_X3_die : GoodIn wsL_law (wsV RL 116 RX3 yX3_die wsX3_die) := goodIn_app (goodIn_of _ (by decide +kernel)) ggL_law_X3_die
set_option maxRecDepth 20000 in
theorem ggL_law_L_order : GoodIn wsL_law wsL_order := goodIn_ca (goodIn_ca (goodIn_r _ [344, 75, 76, 345, 346, 347, 2, 348, 81, 82, 18, 114, 115, 116, 117, 14, 84, 85, 86, 87, 88, 118, 119, 120, 121, 26, 122, 123, 39, 349, 17, 350, 351, 30, 352, 353, 354, 31, 32, 33, 34, 35, 460, 461, 462, 463, 464, 465, 493, 494, 495, 496, 497, 498, 499, 500, 501, 502, 487, 488, 489, 490, 491, 492] (by decide +kernel) (by decide +kernel)) (goodIn_sub (fun _ h => List.mem_append_left _ (List.mem_append_left _ (List.mem_append_right _ h))) (by decide +kernel))) (goodIn_sub (fun _ h => List.mem_append_left _ (List.mem_append_right _ h)) (by decide +kernel))
set_option maxRecDepth 20000 in
theorem gL_law_L_order : GoodIn wsL_law (va_wsS RL 117 yL_order wsL_order) := goodIn_app (goodIn_of _ (by decide +kernel)) ggL_law_L_order
set_option maxRecDepth 20000 in
theorem ggL_law_X3_order : GoodIn wsL_law wsX3_order := goodIn_r _ [358, 93, 56, 248, 66, 67, 68, 69, 70, 138, 139, 5, 140, 96, 97, 98, 141, 142, 143, 99, 100, 101, 102, 466, 467, 468, 469, 470, 471, 472, 473, 474, 475, 476, 477, 478, 479, 480, 481, 482, 483, 484, 485, 486] (by decide +kernel) (by decide +kernel)
set_option maxRecDepth 20000 in
theorem gL_law_X3_order : GoodIn wsL_law (wsV RL 119 RX3 yX3_order wsX3_order) := goodIn_app (goodIn_of _ (by decide +kernel)) ggL_law_X3_order
set_option maxRecDepth 20000 in
theorem ggL_law_L_lift : GoodIn wsL_law wsL_lift := goodIn_ca (goodIn_ca (goodIn_r _ [361, 362, 76, 363, 364, 365, 2, 366, 367, 368, 81, 82, 18, 187, 17, 188, 189, 30, 369, 370, 371, 35, 186, 372, 373, 374, 31, 375, 176, 177, 178, 32, 376, 377, 378, 460, 461, 462, 463, 464, 465, 487, 488, 489, 490, 491, 492] (by decide +kernel) (by decide +kernel)) (goodIn_sub (fun _ h => List.mem_append_right _ h) (by decide +kernel))) (goodIn_sub (fun _ h => List.mem_append_left _ (List.mem_append_left _ (List.mem_append_right _ h))) (by decide +kernel))
set_option maxRecDepth 20000 in
theorem gL_law_L_lift : GoodIn wsL_law (va_wsS RL 120 yL_lift wsL_lift) := goodIn_app (goodIn_of _ (by decide +kernel)) ggL_law_L_lift
set_option maxRecDepth 20000 in
theorem ggL_law_X3_lift : GoodIn wsL_law wsX3_lift := goodIn_r _ [382, 248, 70, 93, 66, 96, 97, 5, 98, 244, 245, 246, 247, 67, 466, 467, 468, 469, 470, 471, 472, 473, 474, 475, 476, 477, 478, 479, 480, 481, 482, 483, 484, 485, 486] (by decide +kernel) (by decide +kernel)
set_option maxRecDepth 20000 in
theorem gL_law_X3_lift : GoodIn wsL_law (wsV RL 122 RX3 yX3_lift wsX3_lift) := goodIn_app (goodIn_of _ (by decide +kernel)) ggL_law_X3_lift
set_option maxRecDepth 20000 in
theorem ggL_law_L_enter : GoodIn wsL_law wsL_enter := goodIn_ca (goodIn_ca (goodIn_r _ [385, 75, 76, 386, 387, 388, 2, 389, 23, 114, 115, 116, 117, 14, 84, 85, 86, 87, 88, 118, 119, 120, 151, 152, 153, 81, 82, 154, 26, 155, 156, 39, 172, 173, 174, 175, 18, 124, 125, 126, 127, 20, 128, 129, 130, 176, 17, 177, 178, 30, 35, 31, 32, 179, 180, 181, 182, 183, 184, 185, 33, 186, 187, 188, 189, 190, 191, 192, 34, 193, 194, 195, 196, 197, 198, 199, 200, 22, 201, 202, 203, 204, 24, 205, 206, 207, 208, 209, 210, 211, 212, 213, 214, 215, 41, 216, 217, 218, 219, 220, 221, 45, 46, 47, 48, 460, 461, 462, 463, 464, 465, 493, 494, 495, 496, 497, 498, 499, 500, 501, 502, 487, 488, 489, 490, 491, 492] (by decide +kernel) (by decide +kernel)) (goodIn_sub (fun _ h => List.mem_append_left _ (List.mem_append_right _ h)) (by decide +kernel))) (goodIn_sub (fun _ h => List.mem_append_left _ (List.mem_append_left _ (List.mem_append_right _ h))) (by decide +kernel))
set_option maxRecDepth 20000 in
theorem gL_law_L_enter : GoodIn wsL_law (va_wsS RL 123 yL_enter wsL_enter) := goodIn_app (goodIn_of _ (by decide +kernel)) ggL_law_L_enter
set_option maxRecDepth 20000 in
theorem ggL_law_X3_enter : GoodIn wsL_law wsX3_enter := goodIn_r _ [393, 93, 55, 59, 60, 138, 139, 5, 140, 96, 97, 98, 141, 142, 143, 99, 100, 101, 102, 161, 162, 163, 164, 56, 240, 241, 242, 243, 53, 57, 244, 245, 246, 247, 248, 70, 66, 67, 249, 250, 251, 252, 68, 69, 253, 254, 255, 256, 54, 257, 258, 259, 260, 261, 262, 263, 264, 94, 58, 265, 266, 267, 268, 62, 63, 64, 65, 466, 467, 468, 469, 470, 471, 472, 473, 474, 475, 476, 477, 478, 479, 480, 481, 482, 483, 484, 485, 486] (by decide +kernel) (by decide +kernel)
set_option maxRecDepth 20000 in
theorem gL_law_X3_enter : GoodIn wsL_law (wsV RL 125 RX3 yX3_enter wsX3_enter) := goodIn_app (goodIn_of _ (by decide +kernel)) ggL_law_X3_enter
set_option maxRecDepth 20000 in
theorem ggL_law_L_may : GoodIn wsL_law wsL_may := goodIn_ca (goodIn_r _ [396, 75, 397, 398, 399, 2, 400, 114, 115, 116, 117, 14, 84, 85, 86, 87, 88, 118, 119, 120, 172, 173, 174, 175, 18, 154, 26, 155, 156, 39, 124, 125, 126, 127, 20, 128, 129, 130, 176, 17, 177, 178, 30, 35, 31, 32, 179, 180, 181, 182, 183, 184, 185, 33, 186, 187, 188, 189, 190, 191, 192, 34, 193, 194, 195, 196, 197, 198, 199, 200, 22, 201, 202, 203, 204, 24, 205, 206, 207, 208, 209, 210, 211, 212, 213, 214, 215, 41, 216, 217, 218, 219, 220, 221, 45, 46, 47, 48, 460, 461, 462, 463, 464, 465, 493, 494, 495, 496, 497, 498, 499, 500, 501, 502, 487, 488, 489, 490, 491, 492] (by decide +kernel) (by decide +kernel)) (goodIn_sub (fun _ h => List.mem_append_left _ (List.mem_append_right _ h)) (by decide +kernel))
set_option maxRecDepth 20000 in
theorem gL_law_L_may : GoodIn wsL_law (va_wsS RL 126 yL_may wsL_may) := goodIn_app (goodIn_of _ (by decide +kernel)) ggL_law_L_may
set_option maxRecDepth 20000 in
theorem ggL_law_X3_may : GoodIn wsL_law wsX3_may := goodIn_r _ [404, 93, 138, 139, 5, 140, 96, 97, 98, 141, 142, 143, 240, 241, 242, 243, 53, 57, 60, 161, 162, 163, 164, 56, 244, 245, 246, 247, 248, 70, 66, 67, 249, 250, 251, 252, 68, 69, 253, 254, 255, 256, 54, 257, 258, 259, 260, 261, 262, 263, 264, 94, 58, 265, 266, 267, 268, 62, 63, 64, 65, 99, 100, 101, 102, 466, 467, 468, 469, 470, 471, 472, 473, 474, 475, 476, 477, 478, 479, 480, 481, 482, 483, 484, 485, 486] (by decide +kernel) (by decide +kernel)
set_option maxRecDepth 20000 in
theorem gL_law_X3_may : GoodIn wsL_law (wsV RL 128 RX3 yX3_may wsX3_may) := goodIn_app (goodIn_of _ (by decide +kernel)) ggL_law_X3_may
set_option maxRecDepth 20000 in
theorem ggL_law_L_mayAll : GoodIn wsL_law wsL_mayAll := goodIn_ca (goodIn_r _ [407, 75, 408, 409, 410, 2, 411, 114, 115, 116, 117, 14, 84, 85, 86, 87, 88, 172, 173, 174, 175, 18, 154, 26, 155, 156, 39, 124, 125, 126, 127, 20, 128, 129, 130, 176, 17, 177, 178, 30, 35, 31, 32, 179, 180, 181, 182, 183, 184, 185, 33, 186, 187, 188, 189, 190, 191, 192, 34, 193, 194, 195, 196, 197, 198, 199, 200, 22, 201, 202, 203, 204, 24, 205, 206, 207, 208, 209, 210, 211, 212, 213, 214, 215, 41, 216, 217, 218, 219, 220, 221, 45, 46, 47, 48, 460, 461, 462, 463, 464, 465, 493, 494, 495, 496, 497, 498, 499, 500, 501, 502, 487, 488, 489, 490, 491, 492] (by decide +kernel) (by decide +kernel)) (goodIn_sub (fun _ h => List.mem_append_left _ (List.mem_append_right _ h)) (by decide +kernel))
set_option maxRecDepth 20000 in
theorem gL_law_L_mayAll : GoodIn wsL_law (va_wsS RL 129 yL_mayAll wsL_mayAll) := goodIn_app (goodIn_of _ (by decide +kernel)) ggL_law_L_mayAll
set_option maxRecDepth 20000 in
theorem ggL_law_X3_mayAll : GoodIn wsL_law wsX3_mayAll := goodIn_r _ [415, 93, 138, 139, 5, 140, 96, 97, 98, 99, 100, 101, 102, 240, 241, 242, 243, 53, 57, 60, 161, 162, 163, 164, 56, 244, 245, 246, 247, 248, 70, 66, 67, 249, 250, 251, 252, 68, 69, 253, 254, 255, 256, 54, 257, 258, 259, 260, 261, 262, 263, 264, 94, 58, 265, 266, 267, 268, 62, 63, 64, 65, 466, 467, 468, 469, 470, 471, 472, 473, 474, 475, 476, 477, 478, 479, 480, 481, 482, 483, 484, 485, 486] (by decide +kernel) (by decide +kernel)
set_option maxRecDepth 20000 in
theorem gL_law_X3_mayAll : GoodIn wsL_law (wsV RL 131 RX3 yX3_mayAll wsX3_mayAll) := goodIn_app (goodIn_of _ (by decide +kernel)) ggL_law_X3_mayAll
set_option maxRecDepth 20000 in
theorem ggL_law_L_holder : GoodIn wsL_law wsL_holder := goodIn_ca (goodIn_r _ [418, 75, 419, 420, 421, 2, 422, 114, 115, 116, 117, 14, 84, 85, 86, 87, 88, 493, 494, 495, 496, 497, 498, 499, 500, 501, 502, 460, 461, 462, 463, 464, 465] (by decide +kernel) (by decide +kernel)) (goodIn_sub (fun _ h => List.mem_append_left _ (List.mem_append_right _ h)) (by decide +kernel))
set_option maxRecDepth 20000 in
theorem gL_law_L_holder : GoodIn wsL_law (va_wsS RL 132 yL_holder wsL_holder) := goodIn_app (goodIn_of _ (by decide +kernel)) ggL_law_L_holder
set_option maxRecDepth 20000 in
theorem ggL_law_X3_holder : GoodIn wsL_law wsX3_holder := goodIn_r _ [426, 93, 56, 57, 138, 139, 5, 140, 96, 97, 98, 99, 100, 101, 102, 466, 467, 468, 469, 470, 471, 472, 473, 474, 475, 476, 477, 478, 479, 480, 481, 482, 483, 484, 485, 486] (by decide +kernel) (by decide +kernel)
set_option maxRecDepth 20000 in
theorem gL_law_X3_holder : GoodIn wsL_law (wsV RL 134 RX3 yX3_holder wsX3_holder) := goodIn_app (goodIn_of _ (by decide +kernel)) ggL_law_X3_holder
set_option maxRecDepth 20000 in
theorem ggL_law_L_notices : GoodIn wsL_law wsL_notices := goodIn_ca (goodIn_r _ [429, 75, 430, 431, 432, 2, 433, 24, 114, 115, 116, 117, 14, 84, 85, 86, 87, 88, 154, 26, 155, 156, 39, 205, 206, 207, 208, 209, 210, 211, 212, 213, 214, 215, 41, 216, 217, 218, 460, 461, 462, 463, 464, 465, 493, 494, 495, 496, 497, 498, 499, 500, 501, 502] (by decide +kernel) (by decide +kernel)) (goodIn_sub (fun _ h => List.mem_append_left _ (List.mem_append_right _ h)) (by decide +kernel))
set_option maxRecDepth 20000 in
theorem gL_law_L_notices : GoodIn wsL_law (va_wsS RL 135 yL_notices wsL_notices) := goodIn_app (goodIn_of _ (by decide +kernel)) ggL_law_L_notices
set_option maxRecDepth 20000 in
theorem ggL_law_X3_notices : GoodIn wsL_law wsX3_notices := goodIn_r _ [437, 93, 138, 139, 5, 140, 96, 97, 98, 257, 258, 259, 260, 261, 262, 263, 264, 94, 58, 161, 162, 163, 164, 56, 99, 100, 101, 102, 466, 467, 468, 469, 470, 471, 472, 473, 474, 475, 476, 477, 478, 479, 480, 481, 482, 483, 484, 485, 486] (by decide +kernel) (by decide +kernel)
set_option maxRecDepth 20000 in
theorem gL_law_X3_notices : GoodIn wsL_law (wsV RL 137 RX3 yX3_notices wsX3_notices) := goodIn_app (goodIn_of _ (by decide +kernel)) ggL_law_X3_notices
set_option maxRecDepth 20000 in
theorem ggL_law_L_refusals : GoodIn wsL_law wsL_refusals := goodIn_ca (goodIn_r _ [440, 75, 441, 442, 443, 2, 444, 23, 118, 119, 120, 84, 85, 86, 87, 88, 460, 461, 462, 463, 464, 465] (by decide +kernel) (by decide +kernel)) (goodIn_sub (fun _ h => List.mem_append_left _ (List.mem_append_right _ h)) (by decide +kernel))
set_option maxRecDepth 20000 in
theorem gL_law_L_refusals : GoodIn wsL_law (va_wsS RL 138 yL_refusals wsL_refusals) := goodIn_app (goodIn_of _ (by decide +kernel)) ggL_law_L_refusals
set_option maxRecDepth 20000 in
theorem ggL_law_X3_refusals : GoodIn wsL_law wsX3_refusals := goodIn_r _ [448, 93, 55, 141, 142, 5, 143, 96, 97, 98, 99, 100, 101, 102, 466, 467, 468, 469, 470, 471, 472, 473, 474, 475, 476, 477, 478, 479, 480, 481, 482, 483, 484, 485, 486] (by decide +kernel) (by decide +kernel)
set_option maxRecDepth 20000 in
theorem gL_law_X3_refusals : GoodIn wsL_law (wsV RL 140 RX3 yX3_refusals wsX3_refusals) := goodIn_app (goodIn_of _ (by decide +kernel)) ggL_law_X3_refusals
set_option maxRecDepth 20000 in
theorem ggL_law_L_binding : GoodIn wsL_law wsL_binding := goodIn_ca (goodIn_r _ [451, 75, 452, 453, 454, 2, 455, 18, 84, 85, 86, 87, 88, 176, 17, 177, 178, 30, 35, 31, 32, 460, 461, 462, 463, 464, 465, 487, 488, 489, 490, 491, 492] (by decide +kernel) (by decide +kernel)) (goodIn_sub (fun _ h => List.mem_append_left _ (List.mem_append_right _ h)) (by decide +kernel))
set_option maxRecDepth 20000 in
theorem gL_law_L_binding : GoodIn wsL_law (va_wsS RL 141 yL_binding wsL_binding) := goodIn_app (goodIn_of _ (by decide +kernel)) ggL_law_L_binding
set_option maxRecDepth 20000 in
theorem ggL_law_X3_binding : GoodIn wsL_law wsX3_binding := goodIn_r _ [459, 93, 138, 139, 5, 140, 96, 97, 98, 244, 245, 246, 247, 248, 70, 66, 67, 99, 100, 101, 102, 466, 467, 468, 469, 470, 471, 472, 473, 474, 475, 476, 477, 478, 479, 480, 481, 482, 483, 484, 485, 486] (by decide +kernel) (by decide +kernel)
set_option maxRecDepth 20000 in
theorem gL_law_X3_binding : GoodIn wsL_law (wsV RL 143 RX3 yX3_binding wsX3_binding) := goodIn_app (goodIn_of _ (by decide +kernel)) ggL_law_X3_binding
theorem dL_law_0 : decode cL_law 0 = .ok (.new 8, 3) := by decide +kernel
theorem dL_law_3 : decode cL_law 3 = .ok (.dup, 1) := by decide +kernel
theorem dL_law_4 : decode cL_law 4 = .ok (.invokespecial 75, 3) := by decide +kernel
theorem dL_law_7 : decode cL_law 7 = .ok (.astore_n 1, 1) := by decide +kernel
theorem dL_law_8 : decode cL_law 8 = .ok (.new 76, 3) := by decide +kernel
theorem dL_law_11 : decode cL_law 11 = .ok (.dup, 1) := by decide +kernel
theorem dL_law_12 : decode cL_law 12 = .ok (.invokespecial 78, 3) := by decide +kernel
theorem dL_law_15 : decode cL_law 15 = .ok (.astore_n 2, 1) := by decide +kernel
theorem dL_law_16 : decode cL_law 16 = .ok (.iconst 1, 1) := by decide +kernel
theorem dL_law_17 : decode cL_law 17 = .ok (.newarray .long, 2) := by decide +kernel
theorem dL_law_19 : decode cL_law 19 = .ok (.astore_n 3, 1) := by decide +kernel
theorem dL_law_20 : decode cL_law 20 = .ok (.iconst 0, 1) := by decide +kernel
theorem dL_law_21 : decode cL_law 21 = .ok (.istore 4, 2) := by decide +kernel
theorem dL_law_23 : decode cL_law 23 = .ok (.iload 4, 2) := by decide +kernel
theorem dL_law_25 : decode cL_law 25 = .ok (.aload_n 0, 1) := by decide +kernel
theorem dL_law_26 : decode cL_law 26 = .ok (.arraylength, 1) := by decide +kernel
theorem dL_law_27 : decode cL_law 27 = .ok (.iconst 5, 1) := by decide +kernel
theorem dL_law_28 : decode cL_law 28 = .ok (.isub, 1) := by decide +kernel
theorem dL_law_29 : decode cL_law 29 = .ok (.if_icmp .gt 1355, 3) := by decide +kernel
theorem dL_law_32 : decode cL_law 32 = .ok (.aload_n 0, 1) := by decide +kernel
theorem dL_law_33 : decode cL_law 33 = .ok (.iload 4, 2) := by decide +kernel
theorem dL_law_35 : decode cL_law 35 = .ok (.iaload, 1) := by decide +kernel
theorem dL_law_36 : decode cL_law 36 = .ok (.bipush 31, 2) := by decide +kernel
theorem dL_law_38 : decode cL_law 38 = .ok (.iand, 1) := by decide +kernel
theorem dL_law_39 : decode cL_law 39 = .ok (.tableswitch 1339 0 17 #[85, 141, 221, 289, 357, 437, 505, 597, 700, 756, 848, 911, 991, 1059, 1115, 1171, 1227, 1283], 85) := by decide +kernel
theorem dL_law_124 : decode cL_law 124 = .ok (.aload_n 1, 1) := by decide +kernel
theorem dL_law_125 : decode cL_law 125 = .ok (.aload_n 0, 1) := by decide +kernel
theorem dL_law_126 : decode cL_law 126 = .ok (.iload 4, 2) := by decide +kernel
theorem dL_law_128 : decode cL_law 128 = .ok (.iconst 1, 1) := by decide +kernel
theorem dL_law_129 : decode cL_law 129 = .ok (.iadd, 1) := by decide +kernel
theorem dL_law_130 : decode cL_law 130 = .ok (.iaload, 1) := by decide +kernel
theorem dL_law_131 : decode cL_law 131 = .ok (.aload_n 3, 1) := by decide +kernel
theorem dL_law_132 : decode cL_law 132 = .ok (.invokestatic 79, 3) := by decide +kernel
theorem dL_law_135 : decode cL_law 135 = .ok (.istore 5, 2) := by decide +kernel
theorem dL_law_137 : decode cL_law 137 = .ok (.aload_n 2, 1) := by decide +kernel
theorem dL_law_138 : decode cL_law 138 = .ok (.aload_n 0, 1) := by decide +kernel
theorem dL_law_139 : decode cL_law 139 = .ok (.iload 4, 2) := by decide +kernel
theorem dL_law_141 : decode cL_law 141 = .ok (.iconst 1, 1) := by decide +kernel
theorem dL_law_142 : decode cL_law 142 = .ok (.iadd, 1) := by decide +kernel
theorem dL_law_143 : decode cL_law 143 = .ok (.iaload, 1) := by decide +kernel
theorem dL_law_144 : decode cL_law 144 = .ok (.invokevirtual 84, 3) := by decide +kernel
theorem dL_law_147 : decode cL_law 147 = .ok (.istore 6, 2) := by decide +kernel
theorem dL_law_149 : decode cL_law 149 = .ok (.aload_n 2, 1) := by decide +kernel
theorem dL_law_150 : decode cL_law 150 = .ok (.invokevirtual 85, 3) := by decide +kernel
theorem dL_law_153 : decode cL_law 153 = .ok (.iload 5, 2) := by decide +kernel
theorem dL_law_155 : decode cL_law 155 = .ok (.if_icmp .eq 5, 3) := by decide +kernel
theorem dL_law_158 : decode cL_law 158 = .ok (.iconst 0, 1) := by decide +kernel
theorem dL_law_159 : decode cL_law 159 = .ok (.ireturn, 1) := by decide +kernel
theorem dL_law_160 : decode cL_law 160 = .ok (.iload 5, 2) := by decide +kernel
theorem dL_law_162 : decode cL_law 162 = .ok (.ifCond .ne 15, 3) := by decide +kernel
theorem dL_law_165 : decode cL_law 165 = .ok (.aload_n 3, 1) := by decide +kernel
theorem dL_law_166 : decode cL_law 166 = .ok (.iconst 0, 1) := by decide +kernel
theorem dL_law_167 : decode cL_law 167 = .ok (.laload, 1) := by decide +kernel
theorem dL_law_168 : decode cL_law 168 = .ok (.iload 6, 2) := by decide +kernel
theorem dL_law_170 : decode cL_law 170 = .ok (.i2l, 1) := by decide +kernel
theorem dL_law_171 : decode cL_law 171 = .ok (.lcmp, 1) := by decide +kernel
theorem dL_law_172 : decode cL_law 172 = .ok (.ifCond .eq 5, 3) := by decide +kernel
theorem dL_law_175 : decode cL_law 175 = .ok (.iconst 0, 1) := by decide +kernel
theorem dL_law_176 : decode cL_law 176 = .ok (.ireturn, 1) := by decide +kernel
theorem dL_law_177 : decode cL_law 177 = .ok (.goto 1201, 3) := by decide +kernel
theorem dL_law_180 : decode cL_law 180 = .ok (.aload_n 1, 1) := by decide +kernel
theorem dL_law_181 : decode cL_law 181 = .ok (.aload_n 0, 1) := by decide +kernel
theorem dL_law_182 : decode cL_law 182 = .ok (.iload 4, 2) := by decide +kernel
theorem dL_law_184 : decode cL_law 184 = .ok (.iconst 1, 1) := by decide +kernel
theorem dL_law_185 : decode cL_law 185 = .ok (.iadd, 1) := by decide +kernel
theorem dL_law_186 : decode cL_law 186 = .ok (.iaload, 1) := by decide +kernel
theorem dL_law_187 : decode cL_law 187 = .ok (.aload_n 0, 1) := by decide +kernel
theorem dL_law_188 : decode cL_law 188 = .ok (.iload 4, 2) := by decide +kernel
theorem dL_law_190 : decode cL_law 190 = .ok (.iconst 2, 1) := by decide +kernel
theorem dL_law_191 : decode cL_law 191 = .ok (.iadd, 1) := by decide +kernel
theorem dL_law_192 : decode cL_law 192 = .ok (.iaload, 1) := by decide +kernel
theorem dL_law_193 : decode cL_law 193 = .ok (.aload_n 0, 1) := by decide +kernel
theorem dL_law_194 : decode cL_law 194 = .ok (.iload 4, 2) := by decide +kernel
theorem dL_law_196 : decode cL_law 196 = .ok (.iconst 3, 1) := by decide +kernel
theorem dL_law_197 : decode cL_law 197 = .ok (.iadd, 1) := by decide +kernel
theorem dL_law_198 : decode cL_law 198 = .ok (.iaload, 1) := by decide +kernel
theorem dL_law_199 : decode cL_law 199 = .ok (.aload_n 3, 1) := by decide +kernel
theorem dL_law_200 : decode cL_law 200 = .ok (.invokestatic 89, 3) := by decide +kernel
theorem dL_law_203 : decode cL_law 203 = .ok (.istore 5, 2) := by decide +kernel
theorem dL_law_205 : decode cL_law 205 = .ok (.aload_n 2, 1) := by decide +kernel
theorem dL_law_206 : decode cL_law 206 = .ok (.aload_n 0, 1) := by decide +kernel
theorem dL_law_207 : decode cL_law 207 = .ok (.iload 4, 2) := by decide +kernel
theorem dL_law_209 : decode cL_law 209 = .ok (.iconst 1, 1) := by decide +kernel
theorem dL_law_210 : decode cL_law 210 = .ok (.iadd, 1) := by decide +kernel
theorem dL_law_211 : decode cL_law 211 = .ok (.iaload, 1) := by decide +kernel
theorem dL_law_212 : decode cL_law 212 = .ok (.aload_n 0, 1) := by decide +kernel
theorem dL_law_213 : decode cL_law 213 = .ok (.iload 4, 2) := by decide +kernel
theorem dL_law_215 : decode cL_law 215 = .ok (.iconst 2, 1) := by decide +kernel
theorem dL_law_216 : decode cL_law 216 = .ok (.iadd, 1) := by decide +kernel
theorem dL_law_217 : decode cL_law 217 = .ok (.iaload, 1) := by decide +kernel
theorem dL_law_218 : decode cL_law 218 = .ok (.aload_n 0, 1) := by decide +kernel
theorem dL_law_219 : decode cL_law 219 = .ok (.iload 4, 2) := by decide +kernel
theorem dL_law_221 : decode cL_law 221 = .ok (.iconst 3, 1) := by decide +kernel
theorem dL_law_222 : decode cL_law 222 = .ok (.iadd, 1) := by decide +kernel
theorem dL_law_223 : decode cL_law 223 = .ok (.iaload, 1) := by decide +kernel
theorem dL_law_224 : decode cL_law 224 = .ok (.invokevirtual 92, 3) := by decide +kernel
theorem dL_law_227 : decode cL_law 227 = .ok (.istore 6, 2) := by decide +kernel
theorem dL_law_229 : decode cL_law 229 = .ok (.aload_n 2, 1) := by decide +kernel
theorem dL_law_230 : decode cL_law 230 = .ok (.invokevirtual 85, 3) := by decide +kernel
theorem dL_law_233 : decode cL_law 233 = .ok (.iload 5, 2) := by decide +kernel
theorem dL_law_235 : decode cL_law 235 = .ok (.if_icmp .eq 5, 3) := by decide +kernel
theorem dL_law_238 : decode cL_law 238 = .ok (.iconst 0, 1) := by decide +kernel
theorem dL_law_239 : decode cL_law 239 = .ok (.ireturn, 1) := by decide +kernel
theorem dL_law_240 : decode cL_law 240 = .ok (.iload 5, 2) := by decide +kernel
theorem dL_law_242 : decode cL_law 242 = .ok (.ifCond .ne 15, 3) := by decide +kernel
theorem dL_law_245 : decode cL_law 245 = .ok (.aload_n 3, 1) := by decide +kernel
theorem dL_law_246 : decode cL_law 246 = .ok (.iconst 0, 1) := by decide +kernel
theorem dL_law_247 : decode cL_law 247 = .ok (.laload, 1) := by decide +kernel
theorem dL_law_248 : decode cL_law 248 = .ok (.iload 6, 2) := by decide +kernel
theorem dL_law_250 : decode cL_law 250 = .ok (.i2l, 1) := by decide +kernel
theorem dL_law_251 : decode cL_law 251 = .ok (.lcmp, 1) := by decide +kernel
theorem dL_law_252 : decode cL_law 252 = .ok (.ifCond .eq 5, 3) := by decide +kernel
theorem dL_law_255 : decode cL_law 255 = .ok (.iconst 0, 1) := by decide +kernel
theorem dL_law_256 : decode cL_law 256 = .ok (.ireturn, 1) := by decide +kernel
theorem dL_law_257 : decode cL_law 257 = .ok (.goto 1121, 3) := by decide +kernel
theorem dL_law_260 : decode cL_law 260 = .ok (.aload_n 1, 1) := by decide +kernel
theorem dL_law_261 : decode cL_law 261 = .ok (.aload_n 0, 1) := by decide +kernel
theorem dL_law_262 : decode cL_law 262 = .ok (.iload 4, 2) := by decide +kernel
theorem dL_law_264 : decode cL_law 264 = .ok (.iconst 1, 1) := by decide +kernel
theorem dL_law_265 : decode cL_law 265 = .ok (.iadd, 1) := by decide +kernel
theorem dL_law_266 : decode cL_law 266 = .ok (.iaload, 1) := by decide +kernel
theorem dL_law_267 : decode cL_law 267 = .ok (.aload_n 0, 1) := by decide +kernel
theorem dL_law_268 : decode cL_law 268 = .ok (.iload 4, 2) := by decide +kernel
theorem dL_law_270 : decode cL_law 270 = .ok (.iconst 2, 1) := by decide +kernel
theorem dL_law_271 : decode cL_law 271 = .ok (.iadd, 1) := by decide +kernel
theorem dL_law_272 : decode cL_law 272 = .ok (.iaload, 1) := by decide +kernel
theorem dL_law_273 : decode cL_law 273 = .ok (.aload_n 3, 1) := by decide +kernel
theorem dL_law_274 : decode cL_law 274 = .ok (.invokestatic 93, 3) := by decide +kernel
theorem dL_law_277 : decode cL_law 277 = .ok (.istore 5, 2) := by decide +kernel
theorem dL_law_279 : decode cL_law 279 = .ok (.aload_n 2, 1) := by decide +kernel
theorem dL_law_280 : decode cL_law 280 = .ok (.aload_n 0, 1) := by decide +kernel
theorem dL_law_281 : decode cL_law 281 = .ok (.iload 4, 2) := by decide +kernel
theorem dL_law_283 : decode cL_law 283 = .ok (.iconst 1, 1) := by decide +kernel
theorem dL_law_284 : decode cL_law 284 = .ok (.iadd, 1) := by decide +kernel
theorem dL_law_285 : decode cL_law 285 = .ok (.iaload, 1) := by decide +kernel
theorem dL_law_286 : decode cL_law 286 = .ok (.aload_n 0, 1) := by decide +kernel
theorem dL_law_287 : decode cL_law 287 = .ok (.iload 4, 2) := by decide +kernel
theorem dL_law_289 : decode cL_law 289 = .ok (.iconst 2, 1) := by decide +kernel
theorem dL_law_290 : decode cL_law 290 = .ok (.iadd, 1) := by decide +kernel
theorem dL_law_291 : decode cL_law 291 = .ok (.iaload, 1) := by decide +kernel
theorem dL_law_292 : decode cL_law 292 = .ok (.invokevirtual 96, 3) := by decide +kernel
theorem dL_law_295 : decode cL_law 295 = .ok (.istore 6, 2) := by decide +kernel
theorem dL_law_297 : decode cL_law 297 = .ok (.aload_n 2, 1) := by decide +kernel
theorem dL_law_298 : decode cL_law 298 = .ok (.invokevirtual 85, 3) := by decide +kernel
theorem dL_law_301 : decode cL_law 301 = .ok (.iload 5, 2) := by decide +kernel
theorem dL_law_303 : decode cL_law 303 = .ok (.if_icmp .eq 5, 3) := by decide +kernel
theorem dL_law_306 : decode cL_law 306 = .ok (.iconst 0, 1) := by decide +kernel
theorem dL_law_307 : decode cL_law 307 = .ok (.ireturn, 1) := by decide +kernel
theorem dL_law_308 : decode cL_law 308 = .ok (.iload 5, 2) := by decide +kernel
theorem dL_law_310 : decode cL_law 310 = .ok (.ifCond .ne 15, 3) := by decide +kernel
theorem dL_law_313 : decode cL_law 313 = .ok (.aload_n 3, 1) := by decide +kernel
theorem dL_law_314 : decode cL_law 314 = .ok (.iconst 0, 1) := by decide +kernel
theorem dL_law_315 : decode cL_law 315 = .ok (.laload, 1) := by decide +kernel
theorem dL_law_316 : decode cL_law 316 = .ok (.iload 6, 2) := by decide +kernel
theorem dL_law_318 : decode cL_law 318 = .ok (.i2l, 1) := by decide +kernel
theorem dL_law_319 : decode cL_law 319 = .ok (.lcmp, 1) := by decide +kernel
theorem dL_law_320 : decode cL_law 320 = .ok (.ifCond .eq 5, 3) := by decide +kernel
theorem dL_law_323 : decode cL_law 323 = .ok (.iconst 0, 1) := by decide +kernel
theorem dL_law_324 : decode cL_law 324 = .ok (.ireturn, 1) := by decide +kernel
theorem dL_law_325 : decode cL_law 325 = .ok (.goto 1053, 3) := by decide +kernel
theorem dL_law_328 : decode cL_law 328 = .ok (.aload_n 1, 1) := by decide +kernel
theorem dL_law_329 : decode cL_law 329 = .ok (.aload_n 0, 1) := by decide +kernel
theorem dL_law_330 : decode cL_law 330 = .ok (.iload 4, 2) := by decide +kernel
theorem dL_law_332 : decode cL_law 332 = .ok (.iconst 1, 1) := by decide +kernel
theorem dL_law_333 : decode cL_law 333 = .ok (.iadd, 1) := by decide +kernel
theorem dL_law_334 : decode cL_law 334 = .ok (.iaload, 1) := by decide +kernel
theorem dL_law_335 : decode cL_law 335 = .ok (.aload_n 0, 1) := by decide +kernel
theorem dL_law_336 : decode cL_law 336 = .ok (.iload 4, 2) := by decide +kernel
theorem dL_law_338 : decode cL_law 338 = .ok (.iconst 2, 1) := by decide +kernel
theorem dL_law_339 : decode cL_law 339 = .ok (.iadd, 1) := by decide +kernel
theorem dL_law_340 : decode cL_law 340 = .ok (.iaload, 1) := by decide +kernel
theorem dL_law_341 : decode cL_law 341 = .ok (.aload_n 3, 1) := by decide +kernel
theorem dL_law_342 : decode cL_law 342 = .ok (.invokestatic 97, 3) := by decide +kernel
theorem dL_law_345 : decode cL_law 345 = .ok (.istore 5, 2) := by decide +kernel
theorem dL_law_347 : decode cL_law 347 = .ok (.aload_n 2, 1) := by decide +kernel
theorem dL_law_348 : decode cL_law 348 = .ok (.aload_n 0, 1) := by decide +kernel
theorem dL_law_349 : decode cL_law 349 = .ok (.iload 4, 2) := by decide +kernel
theorem dL_law_351 : decode cL_law 351 = .ok (.iconst 1, 1) := by decide +kernel
theorem dL_law_352 : decode cL_law 352 = .ok (.iadd, 1) := by decide +kernel
theorem dL_law_353 : decode cL_law 353 = .ok (.iaload, 1) := by decide +kernel
theorem dL_law_354 : decode cL_law 354 = .ok (.aload_n 0, 1) := by decide +kernel
theorem dL_law_355 : decode cL_law 355 = .ok (.iload 4, 2) := by decide +kernel
theorem dL_law_357 : decode cL_law 357 = .ok (.iconst 2, 1) := by decide +kernel
theorem dL_law_358 : decode cL_law 358 = .ok (.iadd, 1) := by decide +kernel
theorem dL_law_359 : decode cL_law 359 = .ok (.iaload, 1) := by decide +kernel
theorem dL_law_360 : decode cL_law 360 = .ok (.invokevirtual 99, 3) := by decide +kernel
theorem dL_law_363 : decode cL_law 363 = .ok (.istore 6, 2) := by decide +kernel
theorem dL_law_365 : decode cL_law 365 = .ok (.aload_n 2, 1) := by decide +kernel
theorem dL_law_366 : decode cL_law 366 = .ok (.invokevirtual 85, 3) := by decide +kernel
theorem dL_law_369 : decode cL_law 369 = .ok (.iload 5, 2) := by decide +kernel
theorem dL_law_371 : decode cL_law 371 = .ok (.if_icmp .eq 5, 3) := by decide +kernel
theorem dL_law_374 : decode cL_law 374 = .ok (.iconst 0, 1) := by decide +kernel
theorem dL_law_375 : decode cL_law 375 = .ok (.ireturn, 1) := by decide +kernel
theorem dL_law_376 : decode cL_law 376 = .ok (.iload 5, 2) := by decide +kernel
theorem dL_law_378 : decode cL_law 378 = .ok (.ifCond .ne 15, 3) := by decide +kernel
theorem dL_law_381 : decode cL_law 381 = .ok (.aload_n 3, 1) := by decide +kernel
theorem dL_law_382 : decode cL_law 382 = .ok (.iconst 0, 1) := by decide +kernel
theorem dL_law_383 : decode cL_law 383 = .ok (.laload, 1) := by decide +kernel
theorem dL_law_384 : decode cL_law 384 = .ok (.iload 6, 2) := by decide +kernel
theorem dL_law_386 : decode cL_law 386 = .ok (.i2l, 1) := by decide +kernel
theorem dL_law_387 : decode cL_law 387 = .ok (.lcmp, 1) := by decide +kernel
theorem dL_law_388 : decode cL_law 388 = .ok (.ifCond .eq 5, 3) := by decide +kernel
theorem dL_law_391 : decode cL_law 391 = .ok (.iconst 0, 1) := by decide +kernel
theorem dL_law_392 : decode cL_law 392 = .ok (.ireturn, 1) := by decide +kernel
theorem dL_law_393 : decode cL_law 393 = .ok (.goto 985, 3) := by decide +kernel
theorem dL_law_396 : decode cL_law 396 = .ok (.aload_n 1, 1) := by decide +kernel
theorem dL_law_397 : decode cL_law 397 = .ok (.aload_n 0, 1) := by decide +kernel
theorem dL_law_398 : decode cL_law 398 = .ok (.iload 4, 2) := by decide +kernel
theorem dL_law_400 : decode cL_law 400 = .ok (.iconst 1, 1) := by decide +kernel
theorem dL_law_401 : decode cL_law 401 = .ok (.iadd, 1) := by decide +kernel
theorem dL_law_402 : decode cL_law 402 = .ok (.iaload, 1) := by decide +kernel
theorem dL_law_403 : decode cL_law 403 = .ok (.aload_n 0, 1) := by decide +kernel
theorem dL_law_404 : decode cL_law 404 = .ok (.iload 4, 2) := by decide +kernel
theorem dL_law_406 : decode cL_law 406 = .ok (.iconst 2, 1) := by decide +kernel
theorem dL_law_407 : decode cL_law 407 = .ok (.iadd, 1) := by decide +kernel
theorem dL_law_408 : decode cL_law 408 = .ok (.iaload, 1) := by decide +kernel
theorem dL_law_409 : decode cL_law 409 = .ok (.aload_n 0, 1) := by decide +kernel
theorem dL_law_410 : decode cL_law 410 = .ok (.iload 4, 2) := by decide +kernel
theorem dL_law_412 : decode cL_law 412 = .ok (.iconst 3, 1) := by decide +kernel
theorem dL_law_413 : decode cL_law 413 = .ok (.iadd, 1) := by decide +kernel
theorem dL_law_414 : decode cL_law 414 = .ok (.iaload, 1) := by decide +kernel
theorem dL_law_415 : decode cL_law 415 = .ok (.aload_n 3, 1) := by decide +kernel
theorem dL_law_416 : decode cL_law 416 = .ok (.invokestatic 100, 3) := by decide +kernel
theorem dL_law_419 : decode cL_law 419 = .ok (.istore 5, 2) := by decide +kernel
theorem dL_law_421 : decode cL_law 421 = .ok (.aload_n 2, 1) := by decide +kernel
theorem dL_law_422 : decode cL_law 422 = .ok (.aload_n 0, 1) := by decide +kernel
theorem dL_law_423 : decode cL_law 423 = .ok (.iload 4, 2) := by decide +kernel
theorem dL_law_425 : decode cL_law 425 = .ok (.iconst 1, 1) := by decide +kernel
theorem dL_law_426 : decode cL_law 426 = .ok (.iadd, 1) := by decide +kernel
theorem dL_law_427 : decode cL_law 427 = .ok (.iaload, 1) := by decide +kernel
theorem dL_law_428 : decode cL_law 428 = .ok (.aload_n 0, 1) := by decide +kernel
theorem dL_law_429 : decode cL_law 429 = .ok (.iload 4, 2) := by decide +kernel
theorem dL_law_431 : decode cL_law 431 = .ok (.iconst 2, 1) := by decide +kernel
theorem dL_law_432 : decode cL_law 432 = .ok (.iadd, 1) := by decide +kernel
theorem dL_law_433 : decode cL_law 433 = .ok (.iaload, 1) := by decide +kernel
theorem dL_law_434 : decode cL_law 434 = .ok (.aload_n 0, 1) := by decide +kernel
theorem dL_law_435 : decode cL_law 435 = .ok (.iload 4, 2) := by decide +kernel
theorem dL_law_437 : decode cL_law 437 = .ok (.iconst 3, 1) := by decide +kernel
theorem dL_law_438 : decode cL_law 438 = .ok (.iadd, 1) := by decide +kernel
theorem dL_law_439 : decode cL_law 439 = .ok (.iaload, 1) := by decide +kernel
theorem dL_law_440 : decode cL_law 440 = .ok (.invokevirtual 102, 3) := by decide +kernel
theorem dL_law_443 : decode cL_law 443 = .ok (.istore 6, 2) := by decide +kernel
theorem dL_law_445 : decode cL_law 445 = .ok (.aload_n 2, 1) := by decide +kernel
theorem dL_law_446 : decode cL_law 446 = .ok (.invokevirtual 85, 3) := by decide +kernel
theorem dL_law_449 : decode cL_law 449 = .ok (.iload 5, 2) := by decide +kernel
theorem dL_law_451 : decode cL_law 451 = .ok (.if_icmp .eq 5, 3) := by decide +kernel
theorem dL_law_454 : decode cL_law 454 = .ok (.iconst 0, 1) := by decide +kernel
theorem dL_law_455 : decode cL_law 455 = .ok (.ireturn, 1) := by decide +kernel
theorem dL_law_456 : decode cL_law 456 = .ok (.iload 5, 2) := by decide +kernel
theorem dL_law_458 : decode cL_law 458 = .ok (.ifCond .ne 15, 3) := by decide +kernel
theorem dL_law_461 : decode cL_law 461 = .ok (.aload_n 3, 1) := by decide +kernel
theorem dL_law_462 : decode cL_law 462 = .ok (.iconst 0, 1) := by decide +kernel
theorem dL_law_463 : decode cL_law 463 = .ok (.laload, 1) := by decide +kernel
theorem dL_law_464 : decode cL_law 464 = .ok (.iload 6, 2) := by decide +kernel
theorem dL_law_466 : decode cL_law 466 = .ok (.i2l, 1) := by decide +kernel
theorem dL_law_467 : decode cL_law 467 = .ok (.lcmp, 1) := by decide +kernel
theorem dL_law_468 : decode cL_law 468 = .ok (.ifCond .eq 5, 3) := by decide +kernel
theorem dL_law_471 : decode cL_law 471 = .ok (.iconst 0, 1) := by decide +kernel
theorem dL_law_472 : decode cL_law 472 = .ok (.ireturn, 1) := by decide +kernel
theorem dL_law_473 : decode cL_law 473 = .ok (.goto 905, 3) := by decide +kernel
theorem dL_law_476 : decode cL_law 476 = .ok (.aload_n 1, 1) := by decide +kernel
theorem dL_law_477 : decode cL_law 477 = .ok (.aload_n 0, 1) := by decide +kernel
theorem dL_law_478 : decode cL_law 478 = .ok (.iload 4, 2) := by decide +kernel
theorem dL_law_480 : decode cL_law 480 = .ok (.iconst 1, 1) := by decide +kernel
theorem dL_law_481 : decode cL_law 481 = .ok (.iadd, 1) := by decide +kernel
theorem dL_law_482 : decode cL_law 482 = .ok (.iaload, 1) := by decide +kernel
theorem dL_law_483 : decode cL_law 483 = .ok (.aload_n 0, 1) := by decide +kernel
theorem dL_law_484 : decode cL_law 484 = .ok (.iload 4, 2) := by decide +kernel
theorem dL_law_486 : decode cL_law 486 = .ok (.iconst 2, 1) := by decide +kernel
theorem dL_law_487 : decode cL_law 487 = .ok (.iadd, 1) := by decide +kernel
theorem dL_law_488 : decode cL_law 488 = .ok (.iaload, 1) := by decide +kernel
theorem dL_law_489 : decode cL_law 489 = .ok (.aload_n 3, 1) := by decide +kernel
theorem dL_law_490 : decode cL_law 490 = .ok (.invokestatic 103, 3) := by decide +kernel
theorem dL_law_493 : decode cL_law 493 = .ok (.istore 5, 2) := by decide +kernel
theorem dL_law_495 : decode cL_law 495 = .ok (.aload_n 2, 1) := by decide +kernel
theorem dL_law_496 : decode cL_law 496 = .ok (.aload_n 0, 1) := by decide +kernel
theorem dL_law_497 : decode cL_law 497 = .ok (.iload 4, 2) := by decide +kernel
theorem dL_law_499 : decode cL_law 499 = .ok (.iconst 1, 1) := by decide +kernel
theorem dL_law_500 : decode cL_law 500 = .ok (.iadd, 1) := by decide +kernel
theorem dL_law_501 : decode cL_law 501 = .ok (.iaload, 1) := by decide +kernel
theorem dL_law_502 : decode cL_law 502 = .ok (.aload_n 0, 1) := by decide +kernel
theorem dL_law_503 : decode cL_law 503 = .ok (.iload 4, 2) := by decide +kernel
theorem dL_law_505 : decode cL_law 505 = .ok (.iconst 2, 1) := by decide +kernel
theorem dL_law_506 : decode cL_law 506 = .ok (.iadd, 1) := by decide +kernel
theorem dL_law_507 : decode cL_law 507 = .ok (.iaload, 1) := by decide +kernel
theorem dL_law_508 : decode cL_law 508 = .ok (.invokevirtual 105, 3) := by decide +kernel
theorem dL_law_511 : decode cL_law 511 = .ok (.istore 6, 2) := by decide +kernel
theorem dL_law_513 : decode cL_law 513 = .ok (.aload_n 2, 1) := by decide +kernel
theorem dL_law_514 : decode cL_law 514 = .ok (.invokevirtual 85, 3) := by decide +kernel
theorem dL_law_517 : decode cL_law 517 = .ok (.iload 5, 2) := by decide +kernel
theorem dL_law_519 : decode cL_law 519 = .ok (.if_icmp .eq 5, 3) := by decide +kernel
theorem dL_law_522 : decode cL_law 522 = .ok (.iconst 0, 1) := by decide +kernel
theorem dL_law_523 : decode cL_law 523 = .ok (.ireturn, 1) := by decide +kernel
theorem dL_law_524 : decode cL_law 524 = .ok (.iload 5, 2) := by decide +kernel
theorem dL_law_526 : decode cL_law 526 = .ok (.ifCond .ne 15, 3) := by decide +kernel
theorem dL_law_529 : decode cL_law 529 = .ok (.aload_n 3, 1) := by decide +kernel
theorem dL_law_530 : decode cL_law 530 = .ok (.iconst 0, 1) := by decide +kernel
theorem dL_law_531 : decode cL_law 531 = .ok (.laload, 1) := by decide +kernel
theorem dL_law_532 : decode cL_law 532 = .ok (.iload 6, 2) := by decide +kernel
theorem dL_law_534 : decode cL_law 534 = .ok (.i2l, 1) := by decide +kernel
theorem dL_law_535 : decode cL_law 535 = .ok (.lcmp, 1) := by decide +kernel
theorem dL_law_536 : decode cL_law 536 = .ok (.ifCond .eq 5, 3) := by decide +kernel
theorem dL_law_539 : decode cL_law 539 = .ok (.iconst 0, 1) := by decide +kernel
theorem dL_law_540 : decode cL_law 540 = .ok (.ireturn, 1) := by decide +kernel
theorem dL_law_541 : decode cL_law 541 = .ok (.goto 837, 3) := by decide +kernel
theorem dL_law_544 : decode cL_law 544 = .ok (.aload_n 1, 1) := by decide +kernel
theorem dL_law_545 : decode cL_law 545 = .ok (.aload_n 0, 1) := by decide +kernel
theorem dL_law_546 : decode cL_law 546 = .ok (.iload 4, 2) := by decide +kernel
theorem dL_law_548 : decode cL_law 548 = .ok (.iconst 1, 1) := by decide +kernel
theorem dL_law_549 : decode cL_law 549 = .ok (.iadd, 1) := by decide +kernel
theorem dL_law_550 : decode cL_law 550 = .ok (.iaload, 1) := by decide +kernel
theorem dL_law_551 : decode cL_law 551 = .ok (.aload_n 0, 1) := by decide +kernel
theorem dL_law_552 : decode cL_law 552 = .ok (.iload 4, 2) := by decide +kernel
theorem dL_law_554 : decode cL_law 554 = .ok (.iconst 2, 1) := by decide +kernel
theorem dL_law_555 : decode cL_law 555 = .ok (.iadd, 1) := by decide +kernel
theorem dL_law_556 : decode cL_law 556 = .ok (.iaload, 1) := by decide +kernel
theorem dL_law_557 : decode cL_law 557 = .ok (.aload_n 0, 1) := by decide +kernel
theorem dL_law_558 : decode cL_law 558 = .ok (.iload 4, 2) := by decide +kernel
theorem dL_law_560 : decode cL_law 560 = .ok (.iconst 3, 1) := by decide +kernel
theorem dL_law_561 : decode cL_law 561 = .ok (.iadd, 1) := by decide +kernel
theorem dL_law_562 : decode cL_law 562 = .ok (.iaload, 1) := by decide +kernel
theorem dL_law_563 : decode cL_law 563 = .ok (.aload_n 0, 1) := by decide +kernel
theorem dL_law_564 : decode cL_law 564 = .ok (.iload 4, 2) := by decide +kernel
theorem dL_law_566 : decode cL_law 566 = .ok (.iconst 4, 1) := by decide +kernel
theorem dL_law_567 : decode cL_law 567 = .ok (.iadd, 1) := by decide +kernel
theorem dL_law_568 : decode cL_law 568 = .ok (.iaload, 1) := by decide +kernel
theorem dL_law_569 : decode cL_law 569 = .ok (.aload_n 3, 1) := by decide +kernel
theorem dL_law_570 : decode cL_law 570 = .ok (.invokestatic 106, 3) := by decide +kernel
theorem dL_law_573 : decode cL_law 573 = .ok (.istore 5, 2) := by decide +kernel
theorem dL_law_575 : decode cL_law 575 = .ok (.aload_n 2, 1) := by decide +kernel
theorem dL_law_576 : decode cL_law 576 = .ok (.aload_n 0, 1) := by decide +kernel
theorem dL_law_577 : decode cL_law 577 = .ok (.iload 4, 2) := by decide +kernel
theorem dL_law_579 : decode cL_law 579 = .ok (.iconst 1, 1) := by decide +kernel
theorem dL_law_580 : decode cL_law 580 = .ok (.iadd, 1) := by decide +kernel
theorem dL_law_581 : decode cL_law 581 = .ok (.iaload, 1) := by decide +kernel
theorem dL_law_582 : decode cL_law 582 = .ok (.aload_n 0, 1) := by decide +kernel
theorem dL_law_583 : decode cL_law 583 = .ok (.iload 4, 2) := by decide +kernel
theorem dL_law_585 : decode cL_law 585 = .ok (.iconst 2, 1) := by decide +kernel
theorem dL_law_586 : decode cL_law 586 = .ok (.iadd, 1) := by decide +kernel
theorem dL_law_587 : decode cL_law 587 = .ok (.iaload, 1) := by decide +kernel
theorem dL_law_588 : decode cL_law 588 = .ok (.aload_n 0, 1) := by decide +kernel
theorem dL_law_589 : decode cL_law 589 = .ok (.iload 4, 2) := by decide +kernel
theorem dL_law_591 : decode cL_law 591 = .ok (.iconst 3, 1) := by decide +kernel
theorem dL_law_592 : decode cL_law 592 = .ok (.iadd, 1) := by decide +kernel
theorem dL_law_593 : decode cL_law 593 = .ok (.iaload, 1) := by decide +kernel
theorem dL_law_594 : decode cL_law 594 = .ok (.aload_n 0, 1) := by decide +kernel
theorem dL_law_595 : decode cL_law 595 = .ok (.iload 4, 2) := by decide +kernel
theorem dL_law_597 : decode cL_law 597 = .ok (.iconst 4, 1) := by decide +kernel
theorem dL_law_598 : decode cL_law 598 = .ok (.iadd, 1) := by decide +kernel
theorem dL_law_599 : decode cL_law 599 = .ok (.iaload, 1) := by decide +kernel
theorem dL_law_600 : decode cL_law 600 = .ok (.invokevirtual 109, 3) := by decide +kernel
theorem dL_law_603 : decode cL_law 603 = .ok (.istore 6, 2) := by decide +kernel
theorem dL_law_605 : decode cL_law 605 = .ok (.aload_n 2, 1) := by decide +kernel
theorem dL_law_606 : decode cL_law 606 = .ok (.invokevirtual 85, 3) := by decide +kernel
theorem dL_law_609 : decode cL_law 609 = .ok (.iload 5, 2) := by decide +kernel
theorem dL_law_611 : decode cL_law 611 = .ok (.if_icmp .eq 5, 3) := by decide +kernel
theorem dL_law_614 : decode cL_law 614 = .ok (.iconst 0, 1) := by decide +kernel
theorem dL_law_615 : decode cL_law 615 = .ok (.ireturn, 1) := by decide +kernel
theorem dL_law_616 : decode cL_law 616 = .ok (.iload 5, 2) := by decide +kernel
theorem dL_law_618 : decode cL_law 618 = .ok (.ifCond .ne 15, 3) := by decide +kernel
theorem dL_law_621 : decode cL_law 621 = .ok (.aload_n 3, 1) := by decide +kernel
theorem dL_law_622 : decode cL_law 622 = .ok (.iconst 0, 1) := by decide +kernel
theorem dL_law_623 : decode cL_law 623 = .ok (.laload, 1) := by decide +kernel
theorem dL_law_624 : decode cL_law 624 = .ok (.iload 6, 2) := by decide +kernel
theorem dL_law_626 : decode cL_law 626 = .ok (.i2l, 1) := by decide +kernel
theorem dL_law_627 : decode cL_law 627 = .ok (.lcmp, 1) := by decide +kernel
theorem dL_law_628 : decode cL_law 628 = .ok (.ifCond .eq 5, 3) := by decide +kernel
theorem dL_law_631 : decode cL_law 631 = .ok (.iconst 0, 1) := by decide +kernel
theorem dL_law_632 : decode cL_law 632 = .ok (.ireturn, 1) := by decide +kernel
theorem dL_law_633 : decode cL_law 633 = .ok (.goto 745, 3) := by decide +kernel
theorem dL_law_636 : decode cL_law 636 = .ok (.aload_n 1, 1) := by decide +kernel
theorem dL_law_637 : decode cL_law 637 = .ok (.aload_n 0, 1) := by decide +kernel
theorem dL_law_638 : decode cL_law 638 = .ok (.iload 4, 2) := by decide +kernel
end
section
theorem dL_law_640 : decode cL_law 640 = .ok (.iconst 1, 1) := by decide +kernel
theorem dL_law_641 : decode cL_law 641 = .ok (.iadd, 1) := by decide +kernel
theorem dL_law_642 : decode cL_law 642 = .ok (.iaload, 1) := by decide +kernel
theorem dL_law_643 : decode cL_law 643 = .ok (.aload_n 0, 1) := by decide +kernel
theorem dL_law_644 : decode cL_law 644 = .ok (.iload 4, 2) := by decide +kernel
theorem dL_law_646 : decode cL_law 646 = .ok (.iconst 2, 1) := by decide +kernel
theorem dL_law_647 : decode cL_law 647 = .ok (.iadd, 1) := by decide +kernel
theorem dL_law_648 : decode cL_law 648 = .ok (.iaload, 1) := by decide +kernel
theorem dL_law_649 : decode cL_law 649 = .ok (.aload_n 0, 1) := by decide +kernel
theorem dL_law_650 : decode cL_law 650 = .ok (.iload 4, 2) := by decide +kernel
theorem dL_law_652 : decode cL_law 652 = .ok (.iconst 3, 1) := by decide +kernel
theorem dL_law_653 : decode cL_law 653 = .ok (.iadd, 1) := by decide +kernel
theorem dL_law_654 : decode cL_law 654 = .ok (.iaload, 1) := by decide +kernel
theorem dL_law_655 : decode cL_law 655 = .ok (.ifCond .eq 7, 3) := by decide +kernel
theorem dL_law_658 : decode cL_law 658 = .ok (.iconst 1, 1) := by decide +kernel
theorem dL_law_659 : decode cL_law 659 = .ok (.goto 4, 3) := by decide +kernel
theorem dL_law_662 : decode cL_law 662 = .ok (.iconst 0, 1) := by decide +kernel
theorem dL_law_663 : decode cL_law 663 = .ok (.aload_n 3, 1) := by decide +kernel
theorem dL_law_664 : decode cL_law 664 = .ok (.invokestatic 110, 3) := by decide +kernel
theorem dL_law_667 : decode cL_law 667 = .ok (.istore 5, 2) := by decide +kernel
theorem dL_law_669 : decode cL_law 669 = .ok (.aload_n 2, 1) := by decide +kernel
theorem dL_law_670 : decode cL_law 670 = .ok (.aload_n 0, 1) := by decide +kernel
theorem dL_law_671 : decode cL_law 671 = .ok (.iload 4, 2) := by decide +kernel
theorem dL_law_673 : decode cL_law 673 = .ok (.iconst 1, 1) := by decide +kernel
theorem dL_law_674 : decode cL_law 674 = .ok (.iadd, 1) := by decide +kernel
theorem dL_law_675 : decode cL_law 675 = .ok (.iaload, 1) := by decide +kernel
theorem dL_law_676 : decode cL_law 676 = .ok (.aload_n 0, 1) := by decide +kernel
theorem dL_law_677 : decode cL_law 677 = .ok (.iload 4, 2) := by decide +kernel
theorem dL_law_679 : decode cL_law 679 = .ok (.iconst 2, 1) := by decide +kernel
theorem dL_law_680 : decode cL_law 680 = .ok (.iadd, 1) := by decide +kernel
theorem dL_law_681 : decode cL_law 681 = .ok (.iaload, 1) := by decide +kernel
theorem dL_law_682 : decode cL_law 682 = .ok (.aload_n 0, 1) := by decide +kernel
theorem dL_law_683 : decode cL_law 683 = .ok (.iload 4, 2) := by decide +kernel
theorem dL_law_685 : decode cL_law 685 = .ok (.iconst 3, 1) := by decide +kernel
theorem dL_law_686 : decode cL_law 686 = .ok (.iadd, 1) := by decide +kernel
theorem dL_law_687 : decode cL_law 687 = .ok (.iaload, 1) := by decide +kernel
theorem dL_law_688 : decode cL_law 688 = .ok (.ifCond .eq 7, 3) := by decide +kernel
theorem dL_law_691 : decode cL_law 691 = .ok (.iconst 1, 1) := by decide +kernel
theorem dL_law_692 : decode cL_law 692 = .ok (.goto 4, 3) := by decide +kernel
theorem dL_law_695 : decode cL_law 695 = .ok (.iconst 0, 1) := by decide +kernel
theorem dL_law_696 : decode cL_law 696 = .ok (.invokevirtual 113, 3) := by decide +kernel
theorem dL_law_699 : decode cL_law 699 = .ok (.istore 6, 2) := by decide +kernel
theorem dL_law_701 : decode cL_law 701 = .ok (.aload_n 2, 1) := by decide +kernel
theorem dL_law_702 : decode cL_law 702 = .ok (.invokevirtual 85, 3) := by decide +kernel
theorem dL_law_705 : decode cL_law 705 = .ok (.iload 5, 2) := by decide +kernel
theorem dL_law_707 : decode cL_law 707 = .ok (.if_icmp .eq 5, 3) := by decide +kernel
theorem dL_law_710 : decode cL_law 710 = .ok (.iconst 0, 1) := by decide +kernel
theorem dL_law_711 : decode cL_law 711 = .ok (.ireturn, 1) := by decide +kernel
theorem dL_law_712 : decode cL_law 712 = .ok (.iload 5, 2) := by decide +kernel
theorem dL_law_714 : decode cL_law 714 = .ok (.ifCond .ne 22, 3) := by decide +kernel
theorem dL_law_717 : decode cL_law 717 = .ok (.aload_n 3, 1) := by decide +kernel
theorem dL_law_718 : decode cL_law 718 = .ok (.iconst 0, 1) := by decide +kernel
theorem dL_law_719 : decode cL_law 719 = .ok (.laload, 1) := by decide +kernel
theorem dL_law_720 : decode cL_law 720 = .ok (.iload 6, 2) := by decide +kernel
theorem dL_law_722 : decode cL_law 722 = .ok (.ifCond .eq 7, 3) := by decide +kernel
theorem dL_law_725 : decode cL_law 725 = .ok (.lconst 1, 1) := by decide +kernel
theorem dL_law_726 : decode cL_law 726 = .ok (.goto 4, 3) := by decide +kernel
theorem dL_law_729 : decode cL_law 729 = .ok (.lconst 0, 1) := by decide +kernel
theorem dL_law_730 : decode cL_law 730 = .ok (.lcmp, 1) := by decide +kernel
theorem dL_law_731 : decode cL_law 731 = .ok (.ifCond .eq 5, 3) := by decide +kernel
theorem dL_law_734 : decode cL_law 734 = .ok (.iconst 0, 1) := by decide +kernel
theorem dL_law_735 : decode cL_law 735 = .ok (.ireturn, 1) := by decide +kernel
theorem dL_law_736 : decode cL_law 736 = .ok (.goto 642, 3) := by decide +kernel
theorem dL_law_739 : decode cL_law 739 = .ok (.aload_n 1, 1) := by decide +kernel
theorem dL_law_740 : decode cL_law 740 = .ok (.aload_n 0, 1) := by decide +kernel
theorem dL_law_741 : decode cL_law 741 = .ok (.iload 4, 2) := by decide +kernel
theorem dL_law_743 : decode cL_law 743 = .ok (.iconst 1, 1) := by decide +kernel
theorem dL_law_744 : decode cL_law 744 = .ok (.iadd, 1) := by decide +kernel
theorem dL_law_745 : decode cL_law 745 = .ok (.iaload, 1) := by decide +kernel
theorem dL_law_746 : decode cL_law 746 = .ok (.aload_n 3, 1) := by decide +kernel
theorem dL_law_747 : decode cL_law 747 = .ok (.invokestatic 114, 3) := by decide +kernel
theorem dL_law_750 : decode cL_law 750 = .ok (.istore 5, 2) := by decide +kernel
theorem dL_law_752 : decode cL_law 752 = .ok (.aload_n 2, 1) := by decide +kernel
theorem dL_law_753 : decode cL_law 753 = .ok (.aload_n 0, 1) := by decide +kernel
theorem dL_law_754 : decode cL_law 754 = .ok (.iload 4, 2) := by decide +kernel
theorem dL_law_756 : decode cL_law 756 = .ok (.iconst 1, 1) := by decide +kernel
theorem dL_law_757 : decode cL_law 757 = .ok (.iadd, 1) := by decide +kernel
theorem dL_law_758 : decode cL_law 758 = .ok (.iaload, 1) := by decide +kernel
theorem dL_law_759 : decode cL_law 759 = .ok (.invokevirtual 116, 3) := by decide +kernel
theorem dL_law_762 : decode cL_law 762 = .ok (.istore 6, 2) := by decide +kernel
theorem dL_law_764 : decode cL_law 764 = .ok (.aload_n 2, 1) := by decide +kernel
theorem dL_law_765 : decode cL_law 765 = .ok (.invokevirtual 85, 3) := by decide +kernel
theorem dL_law_768 : decode cL_law 768 = .ok (.iload 5, 2) := by decide +kernel
theorem dL_law_770 : decode cL_law 770 = .ok (.if_icmp .eq 5, 3) := by decide +kernel
theorem dL_law_773 : decode cL_law 773 = .ok (.iconst 0, 1) := by decide +kernel
theorem dL_law_774 : decode cL_law 774 = .ok (.ireturn, 1) := by decide +kernel
theorem dL_law_775 : decode cL_law 775 = .ok (.iload 5, 2) := by decide +kernel
theorem dL_law_777 : decode cL_law 777 = .ok (.ifCond .ne 15, 3) := by decide +kernel
theorem dL_law_780 : decode cL_law 780 = .ok (.aload_n 3, 1) := by decide +kernel
theorem dL_law_781 : decode cL_law 781 = .ok (.iconst 0, 1) := by decide +kernel
theorem dL_law_782 : decode cL_law 782 = .ok (.laload, 1) := by decide +kernel
theorem dL_law_783 : decode cL_law 783 = .ok (.iload 6, 2) := by decide +kernel
theorem dL_law_785 : decode cL_law 785 = .ok (.i2l, 1) := by decide +kernel
theorem dL_law_786 : decode cL_law 786 = .ok (.lcmp, 1) := by decide +kernel
theorem dL_law_787 : decode cL_law 787 = .ok (.ifCond .eq 5, 3) := by decide +kernel
theorem dL_law_790 : decode cL_law 790 = .ok (.iconst 0, 1) := by decide +kernel
theorem dL_law_791 : decode cL_law 791 = .ok (.ireturn, 1) := by decide +kernel
theorem dL_law_792 : decode cL_law 792 = .ok (.goto 586, 3) := by decide +kernel
theorem dL_law_795 : decode cL_law 795 = .ok (.aload_n 1, 1) := by decide +kernel
theorem dL_law_796 : decode cL_law 796 = .ok (.aload_n 0, 1) := by decide +kernel
theorem dL_law_797 : decode cL_law 797 = .ok (.iload 4, 2) := by decide +kernel
theorem dL_law_799 : decode cL_law 799 = .ok (.iconst 1, 1) := by decide +kernel
theorem dL_law_800 : decode cL_law 800 = .ok (.iadd, 1) := by decide +kernel
theorem dL_law_801 : decode cL_law 801 = .ok (.iaload, 1) := by decide +kernel
theorem dL_law_802 : decode cL_law 802 = .ok (.aload_n 0, 1) := by decide +kernel
theorem dL_law_803 : decode cL_law 803 = .ok (.iload 4, 2) := by decide +kernel
theorem dL_law_805 : decode cL_law 805 = .ok (.iconst 2, 1) := by decide +kernel
theorem dL_law_806 : decode cL_law 806 = .ok (.iadd, 1) := by decide +kernel
theorem dL_law_807 : decode cL_law 807 = .ok (.iaload, 1) := by decide +kernel
theorem dL_law_808 : decode cL_law 808 = .ok (.aload_n 0, 1) := by decide +kernel
theorem dL_law_809 : decode cL_law 809 = .ok (.iload 4, 2) := by decide +kernel
theorem dL_law_811 : decode cL_law 811 = .ok (.iconst 3, 1) := by decide +kernel
theorem dL_law_812 : decode cL_law 812 = .ok (.iadd, 1) := by decide +kernel
theorem dL_law_813 : decode cL_law 813 = .ok (.iaload, 1) := by decide +kernel
theorem dL_law_814 : decode cL_law 814 = .ok (.aload_n 0, 1) := by decide +kernel
theorem dL_law_815 : decode cL_law 815 = .ok (.iload 4, 2) := by decide +kernel
theorem dL_law_817 : decode cL_law 817 = .ok (.iconst 4, 1) := by decide +kernel
theorem dL_law_818 : decode cL_law 818 = .ok (.iadd, 1) := by decide +kernel
theorem dL_law_819 : decode cL_law 819 = .ok (.iaload, 1) := by decide +kernel
theorem dL_law_820 : decode cL_law 820 = .ok (.aload_n 3, 1) := by decide +kernel
theorem dL_law_821 : decode cL_law 821 = .ok (.invokestatic 117, 3) := by decide +kernel
theorem dL_law_824 : decode cL_law 824 = .ok (.istore 5, 2) := by decide +kernel
theorem dL_law_826 : decode cL_law 826 = .ok (.aload_n 2, 1) := by decide +kernel
theorem dL_law_827 : decode cL_law 827 = .ok (.aload_n 0, 1) := by decide +kernel
theorem dL_law_828 : decode cL_law 828 = .ok (.iload 4, 2) := by decide +kernel
theorem dL_law_830 : decode cL_law 830 = .ok (.iconst 1, 1) := by decide +kernel
theorem dL_law_831 : decode cL_law 831 = .ok (.iadd, 1) := by decide +kernel
theorem dL_law_832 : decode cL_law 832 = .ok (.iaload, 1) := by decide +kernel
theorem dL_law_833 : decode cL_law 833 = .ok (.aload_n 0, 1) := by decide +kernel
theorem dL_law_834 : decode cL_law 834 = .ok (.iload 4, 2) := by decide +kernel
theorem dL_law_836 : decode cL_law 836 = .ok (.iconst 2, 1) := by decide +kernel
theorem dL_law_837 : decode cL_law 837 = .ok (.iadd, 1) := by decide +kernel
theorem dL_law_838 : decode cL_law 838 = .ok (.iaload, 1) := by decide +kernel
theorem dL_law_839 : decode cL_law 839 = .ok (.aload_n 0, 1) := by decide +kernel
theorem dL_law_840 : decode cL_law 840 = .ok (.iload 4, 2) := by decide +kernel
theorem dL_law_842 : decode cL_law 842 = .ok (.iconst 3, 1) := by decide +kernel
theorem dL_law_843 : decode cL_law 843 = .ok (.iadd, 1) := by decide +kernel
theorem dL_law_844 : decode cL_law 844 = .ok (.iaload, 1) := by decide +kernel
theorem dL_law_845 : decode cL_law 845 = .ok (.aload_n 0, 1) := by decide +kernel
theorem dL_law_846 : decode cL_law 846 = .ok (.iload 4, 2) := by decide +kernel
theorem dL_law_848 : decode cL_law 848 = .ok (.iconst 4, 1) := by decide +kernel
theorem dL_law_849 : decode cL_law 849 = .ok (.iadd, 1) := by decide +kernel
theorem dL_law_850 : decode cL_law 850 = .ok (.iaload, 1) := by decide +kernel
theorem dL_law_851 : decode cL_law 851 = .ok (.invokevirtual 119, 3) := by decide +kernel
theorem dL_law_854 : decode cL_law 854 = .ok (.istore 6, 2) := by decide +kernel
theorem dL_law_856 : decode cL_law 856 = .ok (.aload_n 2, 1) := by decide +kernel
theorem dL_law_857 : decode cL_law 857 = .ok (.invokevirtual 85, 3) := by decide +kernel
theorem dL_law_860 : decode cL_law 860 = .ok (.iload 5, 2) := by decide +kernel
theorem dL_law_862 : decode cL_law 862 = .ok (.if_icmp .eq 5, 3) := by decide +kernel
theorem dL_law_865 : decode cL_law 865 = .ok (.iconst 0, 1) := by decide +kernel
theorem dL_law_866 : decode cL_law 866 = .ok (.ireturn, 1) := by decide +kernel
theorem dL_law_867 : decode cL_law 867 = .ok (.iload 5, 2) := by decide +kernel
theorem dL_law_869 : decode cL_law 869 = .ok (.ifCond .ne 15, 3) := by decide +kernel
theorem dL_law_872 : decode cL_law 872 = .ok (.aload_n 3, 1) := by decide +kernel
theorem dL_law_873 : decode cL_law 873 = .ok (.iconst 0, 1) := by decide +kernel
theorem dL_law_874 : decode cL_law 874 = .ok (.laload, 1) := by decide +kernel
theorem dL_law_875 : decode cL_law 875 = .ok (.iload 6, 2) := by decide +kernel
theorem dL_law_877 : decode cL_law 877 = .ok (.i2l, 1) := by decide +kernel
theorem dL_law_878 : decode cL_law 878 = .ok (.lcmp, 1) := by decide +kernel
theorem dL_law_879 : decode cL_law 879 = .ok (.ifCond .eq 5, 3) := by decide +kernel
theorem dL_law_882 : decode cL_law 882 = .ok (.iconst 0, 1) := by decide +kernel
theorem dL_law_883 : decode cL_law 883 = .ok (.ireturn, 1) := by decide +kernel
theorem dL_law_884 : decode cL_law 884 = .ok (.goto 494, 3) := by decide +kernel
theorem dL_law_887 : decode cL_law 887 = .ok (.aload_n 1, 1) := by decide +kernel
theorem dL_law_888 : decode cL_law 888 = .ok (.aload_n 0, 1) := by decide +kernel
theorem dL_law_889 : decode cL_law 889 = .ok (.iload 4, 2) := by decide +kernel
theorem dL_law_891 : decode cL_law 891 = .ok (.iconst 1, 1) := by decide +kernel
theorem dL_law_892 : decode cL_law 892 = .ok (.iadd, 1) := by decide +kernel
theorem dL_law_893 : decode cL_law 893 = .ok (.iaload, 1) := by decide +kernel
theorem dL_law_894 : decode cL_law 894 = .ok (.aload_n 3, 1) := by decide +kernel
theorem dL_law_895 : decode cL_law 895 = .ok (.invokestatic 120, 3) := by decide +kernel
theorem dL_law_898 : decode cL_law 898 = .ok (.istore 5, 2) := by decide +kernel
theorem dL_law_900 : decode cL_law 900 = .ok (.aload_n 2, 1) := by decide +kernel
theorem dL_law_901 : decode cL_law 901 = .ok (.aload_n 0, 1) := by decide +kernel
theorem dL_law_902 : decode cL_law 902 = .ok (.iload 4, 2) := by decide +kernel
theorem dL_law_904 : decode cL_law 904 = .ok (.iconst 1, 1) := by decide +kernel
theorem dL_law_905 : decode cL_law 905 = .ok (.iadd, 1) := by decide +kernel
theorem dL_law_906 : decode cL_law 906 = .ok (.iaload, 1) := by decide +kernel
theorem dL_law_907 : decode cL_law 907 = .ok (.invokevirtual 122, 3) := by decide +kernel
theorem dL_law_910 : decode cL_law 910 = .ok (.istore 6, 2) := by decide +kernel
theorem dL_law_912 : decode cL_law 912 = .ok (.aload_n 2, 1) := by decide +kernel
theorem dL_law_913 : decode cL_law 913 = .ok (.invokevirtual 85, 3) := by decide +kernel
theorem dL_law_916 : decode cL_law 916 = .ok (.iload 5, 2) := by decide +kernel
theorem dL_law_918 : decode cL_law 918 = .ok (.if_icmp .eq 5, 3) := by decide +kernel
theorem dL_law_921 : decode cL_law 921 = .ok (.iconst 0, 1) := by decide +kernel
theorem dL_law_922 : decode cL_law 922 = .ok (.ireturn, 1) := by decide +kernel
theorem dL_law_923 : decode cL_law 923 = .ok (.iload 5, 2) := by decide +kernel
theorem dL_law_925 : decode cL_law 925 = .ok (.ifCond .ne 22, 3) := by decide +kernel
theorem dL_law_928 : decode cL_law 928 = .ok (.aload_n 3, 1) := by decide +kernel
theorem dL_law_929 : decode cL_law 929 = .ok (.iconst 0, 1) := by decide +kernel
theorem dL_law_930 : decode cL_law 930 = .ok (.laload, 1) := by decide +kernel
theorem dL_law_931 : decode cL_law 931 = .ok (.iload 6, 2) := by decide +kernel
theorem dL_law_933 : decode cL_law 933 = .ok (.ifCond .eq 7, 3) := by decide +kernel
theorem dL_law_936 : decode cL_law 936 = .ok (.lconst 1, 1) := by decide +kernel
theorem dL_law_937 : decode cL_law 937 = .ok (.goto 4, 3) := by decide +kernel
theorem dL_law_940 : decode cL_law 940 = .ok (.lconst 0, 1) := by decide +kernel
theorem dL_law_941 : decode cL_law 941 = .ok (.lcmp, 1) := by decide +kernel
theorem dL_law_942 : decode cL_law 942 = .ok (.ifCond .eq 5, 3) := by decide +kernel
theorem dL_law_945 : decode cL_law 945 = .ok (.iconst 0, 1) := by decide +kernel
theorem dL_law_946 : decode cL_law 946 = .ok (.ireturn, 1) := by decide +kernel
theorem dL_law_947 : decode cL_law 947 = .ok (.goto 431, 3) := by decide +kernel
theorem dL_law_950 : decode cL_law 950 = .ok (.aload_n 1, 1) := by decide +kernel
theorem dL_law_951 : decode cL_law 951 = .ok (.aload_n 0, 1) := by decide +kernel
theorem dL_law_952 : decode cL_law 952 = .ok (.iload 4, 2) := by decide +kernel
theorem dL_law_954 : decode cL_law 954 = .ok (.iconst 1, 1) := by decide +kernel
theorem dL_law_955 : decode cL_law 955 = .ok (.iadd, 1) := by decide +kernel
theorem dL_law_956 : decode cL_law 956 = .ok (.iaload, 1) := by decide +kernel
theorem dL_law_957 : decode cL_law 957 = .ok (.aload_n 0, 1) := by decide +kernel
theorem dL_law_958 : decode cL_law 958 = .ok (.iload 4, 2) := by decide +kernel
theorem dL_law_960 : decode cL_law 960 = .ok (.iconst 2, 1) := by decide +kernel
theorem dL_law_961 : decode cL_law 961 = .ok (.iadd, 1) := by decide +kernel
theorem dL_law_962 : decode cL_law 962 = .ok (.iaload, 1) := by decide +kernel
theorem dL_law_963 : decode cL_law 963 = .ok (.aload_n 0, 1) := by decide +kernel
theorem dL_law_964 : decode cL_law 964 = .ok (.iload 4, 2) := by decide +kernel
theorem dL_law_966 : decode cL_law 966 = .ok (.iconst 3, 1) := by decide +kernel
theorem dL_law_967 : decode cL_law 967 = .ok (.iadd, 1) := by decide +kernel
theorem dL_law_968 : decode cL_law 968 = .ok (.iaload, 1) := by decide +kernel
theorem dL_law_969 : decode cL_law 969 = .ok (.aload_n 3, 1) := by decide +kernel
theorem dL_law_970 : decode cL_law 970 = .ok (.invokestatic 123, 3) := by decide +kernel
theorem dL_law_973 : decode cL_law 973 = .ok (.istore 5, 2) := by decide +kernel
theorem dL_law_975 : decode cL_law 975 = .ok (.aload_n 2, 1) := by decide +kernel
theorem dL_law_976 : decode cL_law 976 = .ok (.aload_n 0, 1) := by decide +kernel
theorem dL_law_977 : decode cL_law 977 = .ok (.iload 4, 2) := by decide +kernel
theorem dL_law_979 : decode cL_law 979 = .ok (.iconst 1, 1) := by decide +kernel
theorem dL_law_980 : decode cL_law 980 = .ok (.iadd, 1) := by decide +kernel
theorem dL_law_981 : decode cL_law 981 = .ok (.iaload, 1) := by decide +kernel
theorem dL_law_982 : decode cL_law 982 = .ok (.aload_n 0, 1) := by decide +kernel
theorem dL_law_983 : decode cL_law 983 = .ok (.iload 4, 2) := by decide +kernel
theorem dL_law_985 : decode cL_law 985 = .ok (.iconst 2, 1) := by decide +kernel
theorem dL_law_986 : decode cL_law 986 = .ok (.iadd, 1) := by decide +kernel
theorem dL_law_987 : decode cL_law 987 = .ok (.iaload, 1) := by decide +kernel
theorem dL_law_988 : decode cL_law 988 = .ok (.aload_n 0, 1) := by decide +kernel
theorem dL_law_989 : decode cL_law 989 = .ok (.iload 4, 2) := by decide +kernel
theorem dL_law_991 : decode cL_law 991 = .ok (.iconst 3, 1) := by decide +kernel
theorem dL_law_992 : decode cL_law 992 = .ok (.iadd, 1) := by decide +kernel
theorem dL_law_993 : decode cL_law 993 = .ok (.iaload, 1) := by decide +kernel
theorem dL_law_994 : decode cL_law 994 = .ok (.invokevirtual 125, 3) := by decide +kernel
theorem dL_law_997 : decode cL_law 997 = .ok (.istore 6, 2) := by decide +kernel
theorem dL_law_999 : decode cL_law 999 = .ok (.aload_n 2, 1) := by decide +kernel
theorem dL_law_1000 : decode cL_law 1000 = .ok (.invokevirtual 85, 3) := by decide +kernel
theorem dL_law_1003 : decode cL_law 1003 = .ok (.iload 5, 2) := by decide +kernel
theorem dL_law_1005 : decode cL_law 1005 = .ok (.if_icmp .eq 5, 3) := by decide +kernel
theorem dL_law_1008 : decode cL_law 1008 = .ok (.iconst 0, 1) := by decide +kernel
theorem dL_law_1009 : decode cL_law 1009 = .ok (.ireturn, 1) := by decide +kernel
theorem dL_law_1010 : decode cL_law 1010 = .ok (.iload 5, 2) := by decide +kernel
theorem dL_law_1012 : decode cL_law 1012 = .ok (.ifCond .ne 15, 3) := by decide +kernel
theorem dL_law_1015 : decode cL_law 1015 = .ok (.aload_n 3, 1) := by decide +kernel
theorem dL_law_1016 : decode cL_law 1016 = .ok (.iconst 0, 1) := by decide +kernel
theorem dL_law_1017 : decode cL_law 1017 = .ok (.laload, 1) := by decide +kernel
theorem dL_law_1018 : decode cL_law 1018 = .ok (.iload 6, 2) := by decide +kernel
theorem dL_law_1020 : decode cL_law 1020 = .ok (.i2l, 1) := by decide +kernel
theorem dL_law_1021 : decode cL_law 1021 = .ok (.lcmp, 1) := by decide +kernel
theorem dL_law_1022 : decode cL_law 1022 = .ok (.ifCond .eq 5, 3) := by decide +kernel
theorem dL_law_1025 : decode cL_law 1025 = .ok (.iconst 0, 1) := by decide +kernel
theorem dL_law_1026 : decode cL_law 1026 = .ok (.ireturn, 1) := by decide +kernel
theorem dL_law_1027 : decode cL_law 1027 = .ok (.goto 351, 3) := by decide +kernel
theorem dL_law_1030 : decode cL_law 1030 = .ok (.aload_n 1, 1) := by decide +kernel
theorem dL_law_1031 : decode cL_law 1031 = .ok (.aload_n 0, 1) := by decide +kernel
theorem dL_law_1032 : decode cL_law 1032 = .ok (.iload 4, 2) := by decide +kernel
theorem dL_law_1034 : decode cL_law 1034 = .ok (.iconst 1, 1) := by decide +kernel
theorem dL_law_1035 : decode cL_law 1035 = .ok (.iadd, 1) := by decide +kernel
theorem dL_law_1036 : decode cL_law 1036 = .ok (.iaload, 1) := by decide +kernel
theorem dL_law_1037 : decode cL_law 1037 = .ok (.aload_n 0, 1) := by decide +kernel
theorem dL_law_1038 : decode cL_law 1038 = .ok (.iload 4, 2) := by decide +kernel
theorem dL_law_1040 : decode cL_law 1040 = .ok (.iconst 2, 1) := by decide +kernel
theorem dL_law_1041 : decode cL_law 1041 = .ok (.iadd, 1) := by decide +kernel
theorem dL_law_1042 : decode cL_law 1042 = .ok (.iaload, 1) := by decide +kernel
theorem dL_law_1043 : decode cL_law 1043 = .ok (.aload_n 3, 1) := by decide +kernel
theorem dL_law_1044 : decode cL_law 1044 = .ok (.invokestatic 126, 3) := by decide +kernel
theorem dL_law_1047 : decode cL_law 1047 = .ok (.istore 5, 2) := by decide +kernel
theorem dL_law_1049 : decode cL_law 1049 = .ok (.aload_n 2, 1) := by decide +kernel
theorem dL_law_1050 : decode cL_law 1050 = .ok (.aload_n 0, 1) := by decide +kernel
theorem dL_law_1051 : decode cL_law 1051 = .ok (.iload 4, 2) := by decide +kernel
theorem dL_law_1053 : decode cL_law 1053 = .ok (.iconst 1, 1) := by decide +kernel
theorem dL_law_1054 : decode cL_law 1054 = .ok (.iadd, 1) := by decide +kernel
theorem dL_law_1055 : decode cL_law 1055 = .ok (.iaload, 1) := by decide +kernel
theorem dL_law_1056 : decode cL_law 1056 = .ok (.aload_n 0, 1) := by decide +kernel
theorem dL_law_1057 : decode cL_law 1057 = .ok (.iload 4, 2) := by decide +kernel
theorem dL_law_1059 : decode cL_law 1059 = .ok (.iconst 2, 1) := by decide +kernel
theorem dL_law_1060 : decode cL_law 1060 = .ok (.iadd, 1) := by decide +kernel
theorem dL_law_1061 : decode cL_law 1061 = .ok (.iaload, 1) := by decide +kernel
theorem dL_law_1062 : decode cL_law 1062 = .ok (.invokevirtual 128, 3) := by decide +kernel
theorem dL_law_1065 : decode cL_law 1065 = .ok (.istore 6, 2) := by decide +kernel
theorem dL_law_1067 : decode cL_law 1067 = .ok (.aload_n 2, 1) := by decide +kernel
theorem dL_law_1068 : decode cL_law 1068 = .ok (.invokevirtual 85, 3) := by decide +kernel
theorem dL_law_1071 : decode cL_law 1071 = .ok (.iload 5, 2) := by decide +kernel
theorem dL_law_1073 : decode cL_law 1073 = .ok (.if_icmp .eq 5, 3) := by decide +kernel
theorem dL_law_1076 : decode cL_law 1076 = .ok (.iconst 0, 1) := by decide +kernel
theorem dL_law_1077 : decode cL_law 1077 = .ok (.ireturn, 1) := by decide +kernel
theorem dL_law_1078 : decode cL_law 1078 = .ok (.iload 5, 2) := by decide +kernel
theorem dL_law_1080 : decode cL_law 1080 = .ok (.ifCond .ne 15, 3) := by decide +kernel
theorem dL_law_1083 : decode cL_law 1083 = .ok (.aload_n 3, 1) := by decide +kernel
theorem dL_law_1084 : decode cL_law 1084 = .ok (.iconst 0, 1) := by decide +kernel
theorem dL_law_1085 : decode cL_law 1085 = .ok (.laload, 1) := by decide +kernel
theorem dL_law_1086 : decode cL_law 1086 = .ok (.iload 6, 2) := by decide +kernel
theorem dL_law_1088 : decode cL_law 1088 = .ok (.i2l, 1) := by decide +kernel
theorem dL_law_1089 : decode cL_law 1089 = .ok (.lcmp, 1) := by decide +kernel
theorem dL_law_1090 : decode cL_law 1090 = .ok (.ifCond .eq 5, 3) := by decide +kernel
theorem dL_law_1093 : decode cL_law 1093 = .ok (.iconst 0, 1) := by decide +kernel
theorem dL_law_1094 : decode cL_law 1094 = .ok (.ireturn, 1) := by decide +kernel
theorem dL_law_1095 : decode cL_law 1095 = .ok (.goto 283, 3) := by decide +kernel
theorem dL_law_1098 : decode cL_law 1098 = .ok (.aload_n 1, 1) := by decide +kernel
theorem dL_law_1099 : decode cL_law 1099 = .ok (.aload_n 0, 1) := by decide +kernel
theorem dL_law_1100 : decode cL_law 1100 = .ok (.iload 4, 2) := by decide +kernel
theorem dL_law_1102 : decode cL_law 1102 = .ok (.iconst 1, 1) := by decide +kernel
theorem dL_law_1103 : decode cL_law 1103 = .ok (.iadd, 1) := by decide +kernel
theorem dL_law_1104 : decode cL_law 1104 = .ok (.iaload, 1) := by decide +kernel
theorem dL_law_1105 : decode cL_law 1105 = .ok (.aload_n 3, 1) := by decide +kernel
theorem dL_law_1106 : decode cL_law 1106 = .ok (.invokestatic 129, 3) := by decide +kernel
theorem dL_law_1109 : decode cL_law 1109 = .ok (.istore 5, 2) := by decide +kernel
theorem dL_law_1111 : decode cL_law 1111 = .ok (.aload_n 2, 1) := by decide +kernel
theorem dL_law_1112 : decode cL_law 1112 = .ok (.aload_n 0, 1) := by decide +kernel
theorem dL_law_1113 : decode cL_law 1113 = .ok (.iload 4, 2) := by decide +kernel
theorem dL_law_1115 : decode cL_law 1115 = .ok (.iconst 1, 1) := by decide +kernel
theorem dL_law_1116 : decode cL_law 1116 = .ok (.iadd, 1) := by decide +kernel
theorem dL_law_1117 : decode cL_law 1117 = .ok (.iaload, 1) := by decide +kernel
theorem dL_law_1118 : decode cL_law 1118 = .ok (.invokevirtual 131, 3) := by decide +kernel
theorem dL_law_1121 : decode cL_law 1121 = .ok (.istore 6, 2) := by decide +kernel
theorem dL_law_1123 : decode cL_law 1123 = .ok (.aload_n 2, 1) := by decide +kernel
theorem dL_law_1124 : decode cL_law 1124 = .ok (.invokevirtual 85, 3) := by decide +kernel
theorem dL_law_1127 : decode cL_law 1127 = .ok (.iload 5, 2) := by decide +kernel
theorem dL_law_1129 : decode cL_law 1129 = .ok (.if_icmp .eq 5, 3) := by decide +kernel
theorem dL_law_1132 : decode cL_law 1132 = .ok (.iconst 0, 1) := by decide +kernel
theorem dL_law_1133 : decode cL_law 1133 = .ok (.ireturn, 1) := by decide +kernel
theorem dL_law_1134 : decode cL_law 1134 = .ok (.iload 5, 2) := by decide +kernel
theorem dL_law_1136 : decode cL_law 1136 = .ok (.ifCond .ne 15, 3) := by decide +kernel
theorem dL_law_1139 : decode cL_law 1139 = .ok (.aload_n 3, 1) := by decide +kernel
theorem dL_law_1140 : decode cL_law 1140 = .ok (.iconst 0, 1) := by decide +kernel
theorem dL_law_1141 : decode cL_law 1141 = .ok (.laload, 1) := by decide +kernel
theorem dL_law_1142 : decode cL_law 1142 = .ok (.iload 6, 2) := by decide +kernel
theorem dL_law_1144 : decode cL_law 1144 = .ok (.i2l, 1) := by decide +kernel
theorem dL_law_1145 : decode cL_law 1145 = .ok (.lcmp, 1) := by decide +kernel
theorem dL_law_1146 : decode cL_law 1146 = .ok (.ifCond .eq 5, 3) := by decide +kernel
theorem dL_law_1149 : decode cL_law 1149 = .ok (.iconst 0, 1) := by decide +kernel
theorem dL_law_1150 : decode cL_law 1150 = .ok (.ireturn, 1) := by decide +kernel
theorem dL_law_1151 : decode cL_law 1151 = .ok (.goto 227, 3) := by decide +kernel
theorem dL_law_1154 : decode cL_law 1154 = .ok (.aload_n 1, 1) := by decide +kernel
theorem dL_law_1155 : decode cL_law 1155 = .ok (.aload_n 0, 1) := by decide +kernel
theorem dL_law_1156 : decode cL_law 1156 = .ok (.iload 4, 2) := by decide +kernel
theorem dL_law_1158 : decode cL_law 1158 = .ok (.iconst 1, 1) := by decide +kernel
theorem dL_law_1159 : decode cL_law 1159 = .ok (.iadd, 1) := by decide +kernel
theorem dL_law_1160 : decode cL_law 1160 = .ok (.iaload, 1) := by decide +kernel
theorem dL_law_1161 : decode cL_law 1161 = .ok (.aload_n 3, 1) := by decide +kernel
theorem dL_law_1162 : decode cL_law 1162 = .ok (.invokestatic 132, 3) := by decide +kernel
theorem dL_law_1165 : decode cL_law 1165 = .ok (.istore 5, 2) := by decide +kernel
theorem dL_law_1167 : decode cL_law 1167 = .ok (.aload_n 2, 1) := by decide +kernel
theorem dL_law_1168 : decode cL_law 1168 = .ok (.aload_n 0, 1) := by decide +kernel
theorem dL_law_1169 : decode cL_law 1169 = .ok (.iload 4, 2) := by decide +kernel
theorem dL_law_1171 : decode cL_law 1171 = .ok (.iconst 1, 1) := by decide +kernel
theorem dL_law_1172 : decode cL_law 1172 = .ok (.iadd, 1) := by decide +kernel
theorem dL_law_1173 : decode cL_law 1173 = .ok (.iaload, 1) := by decide +kernel
theorem dL_law_1174 : decode cL_law 1174 = .ok (.invokevirtual 134, 3) := by decide +kernel
theorem dL_law_1177 : decode cL_law 1177 = .ok (.istore 6, 2) := by decide +kernel
theorem dL_law_1179 : decode cL_law 1179 = .ok (.aload_n 2, 1) := by decide +kernel
theorem dL_law_1180 : decode cL_law 1180 = .ok (.invokevirtual 85, 3) := by decide +kernel
theorem dL_law_1183 : decode cL_law 1183 = .ok (.iload 5, 2) := by decide +kernel
theorem dL_law_1185 : decode cL_law 1185 = .ok (.if_icmp .eq 5, 3) := by decide +kernel
theorem dL_law_1188 : decode cL_law 1188 = .ok (.iconst 0, 1) := by decide +kernel
theorem dL_law_1189 : decode cL_law 1189 = .ok (.ireturn, 1) := by decide +kernel
theorem dL_law_1190 : decode cL_law 1190 = .ok (.iload 5, 2) := by decide +kernel
theorem dL_law_1192 : decode cL_law 1192 = .ok (.ifCond .ne 15, 3) := by decide +kernel
theorem dL_law_1195 : decode cL_law 1195 = .ok (.aload_n 3, 1) := by decide +kernel
theorem dL_law_1196 : decode cL_law 1196 = .ok (.iconst 0, 1) := by decide +kernel
theorem dL_law_1197 : decode cL_law 1197 = .ok (.laload, 1) := by decide +kernel
theorem dL_law_1198 : decode cL_law 1198 = .ok (.iload 6, 2) := by decide +kernel
theorem dL_law_1200 : decode cL_law 1200 = .ok (.i2l, 1) := by decide +kernel
theorem dL_law_1201 : decode cL_law 1201 = .ok (.lcmp, 1) := by decide +kernel
theorem dL_law_1202 : decode cL_law 1202 = .ok (.ifCond .eq 5, 3) := by decide +kernel
theorem dL_law_1205 : decode cL_law 1205 = .ok (.iconst 0, 1) := by decide +kernel
theorem dL_law_1206 : decode cL_law 1206 = .ok (.ireturn, 1) := by decide +kernel
theorem dL_law_1207 : decode cL_law 1207 = .ok (.goto 171, 3) := by decide +kernel
theorem dL_law_1210 : decode cL_law 1210 = .ok (.aload_n 1, 1) := by decide +kernel
theorem dL_law_1211 : decode cL_law 1211 = .ok (.aload_n 0, 1) := by decide +kernel
theorem dL_law_1212 : decode cL_law 1212 = .ok (.iload 4, 2) := by decide +kernel
theorem dL_law_1214 : decode cL_law 1214 = .ok (.iconst 1, 1) := by decide +kernel
theorem dL_law_1215 : decode cL_law 1215 = .ok (.iadd, 1) := by decide +kernel
theorem dL_law_1216 : decode cL_law 1216 = .ok (.iaload, 1) := by decide +kernel
theorem dL_law_1217 : decode cL_law 1217 = .ok (.aload_n 3, 1) := by decide +kernel
theorem dL_law_1218 : decode cL_law 1218 = .ok (.invokestatic 135, 3) := by decide +kernel
theorem dL_law_1221 : decode cL_law 1221 = .ok (.istore 5, 2) := by decide +kernel
theorem dL_law_1223 : decode cL_law 1223 = .ok (.aload_n 2, 1) := by decide +kernel
theorem dL_law_1224 : decode cL_law 1224 = .ok (.aload_n 0, 1) := by decide +kernel
theorem dL_law_1225 : decode cL_law 1225 = .ok (.iload 4, 2) := by decide +kernel
theorem dL_law_1227 : decode cL_law 1227 = .ok (.iconst 1, 1) := by decide +kernel
theorem dL_law_1228 : decode cL_law 1228 = .ok (.iadd, 1) := by decide +kernel
theorem dL_law_1229 : decode cL_law 1229 = .ok (.iaload, 1) := by decide +kernel
theorem dL_law_1230 : decode cL_law 1230 = .ok (.invokevirtual 137, 3) := by decide +kernel
theorem dL_law_1233 : decode cL_law 1233 = .ok (.istore 6, 2) := by decide +kernel
theorem dL_law_1235 : decode cL_law 1235 = .ok (.aload_n 2, 1) := by decide +kernel
theorem dL_law_1236 : decode cL_law 1236 = .ok (.invokevirtual 85, 3) := by decide +kernel
theorem dL_law_1239 : decode cL_law 1239 = .ok (.iload 5, 2) := by decide +kernel
theorem dL_law_1241 : decode cL_law 1241 = .ok (.if_icmp .eq 5, 3) := by decide +kernel
theorem dL_law_1244 : decode cL_law 1244 = .ok (.iconst 0, 1) := by decide +kernel
theorem dL_law_1245 : decode cL_law 1245 = .ok (.ireturn, 1) := by decide +kernel
theorem dL_law_1246 : decode cL_law 1246 = .ok (.iload 5, 2) := by decide +kernel
theorem dL_law_1248 : decode cL_law 1248 = .ok (.ifCond .ne 15, 3) := by decide +kernel
theorem dL_law_1251 : decode cL_law 1251 = .ok (.aload_n 3, 1) := by decide +kernel
theorem dL_law_1252 : decode cL_law 1252 = .ok (.iconst 0, 1) := by decide +kernel
theorem dL_law_1253 : decode cL_law 1253 = .ok (.laload, 1) := by decide +kernel
theorem dL_law_1254 : decode cL_law 1254 = .ok (.iload 6, 2) := by decide +kernel
theorem dL_law_1256 : decode cL_law 1256 = .ok (.i2l, 1) := by decide +kernel
theorem dL_law_1257 : decode cL_law 1257 = .ok (.lcmp, 1) := by decide +kernel
theorem dL_law_1258 : decode cL_law 1258 = .ok (.ifCond .eq 5, 3) := by decide +kernel
theorem dL_law_1261 : decode cL_law 1261 = .ok (.iconst 0, 1) := by decide +kernel
theorem dL_law_1262 : decode cL_law 1262 = .ok (.ireturn, 1) := by decide +kernel
theorem dL_law_1263 : decode cL_law 1263 = .ok (.goto 115, 3) := by decide +kernel
theorem dL_law_1266 : decode cL_law 1266 = .ok (.aload_n 1, 1) := by decide +kernel
theorem dL_law_1267 : decode cL_law 1267 = .ok (.aload_n 0, 1) := by decide +kernel
theorem dL_law_1268 : decode cL_law 1268 = .ok (.iload 4, 2) := by decide +kernel
theorem dL_law_1270 : decode cL_law 1270 = .ok (.iconst 1, 1) := by decide +kernel
theorem dL_law_1271 : decode cL_law 1271 = .ok (.iadd, 1) := by decide +kernel
theorem dL_law_1272 : decode cL_law 1272 = .ok (.iaload, 1) := by decide +kernel
theorem dL_law_1273 : decode cL_law 1273 = .ok (.aload_n 3, 1) := by decide +kernel
theorem dL_law_1274 : decode cL_law 1274 = .ok (.invokestatic 138, 3) := by decide +kernel
theorem dL_law_1277 : decode cL_law 1277 = .ok (.istore 5, 2) := by decide +kernel
theorem dL_law_1279 : decode cL_law 1279 = .ok (.aload_n 2, 1) := by decide +kernel
theorem dL_law_1280 : decode cL_law 1280 = .ok (.aload_n 0, 1) := by decide +kernel
theorem dL_law_1281 : decode cL_law 1281 = .ok (.iload 4, 2) := by decide +kernel
theorem dL_law_1283 : decode cL_law 1283 = .ok (.iconst 1, 1) := by decide +kernel
theorem dL_law_1284 : decode cL_law 1284 = .ok (.iadd, 1) := by decide +kernel
theorem dL_law_1285 : decode cL_law 1285 = .ok (.iaload, 1) := by decide +kernel
theorem dL_law_1286 : decode cL_law 1286 = .ok (.invokevirtual 140, 3) := by decide +kernel
theorem dL_law_1289 : decode cL_law 1289 = .ok (.istore 6, 2) := by decide +kernel
theorem dL_law_1291 : decode cL_law 1291 = .ok (.aload_n 2, 1) := by decide +kernel
theorem dL_law_1292 : decode cL_law 1292 = .ok (.invokevirtual 85, 3) := by decide +kernel
theorem dL_law_1295 : decode cL_law 1295 = .ok (.iload 5, 2) := by decide +kernel
theorem dL_law_1297 : decode cL_law 1297 = .ok (.if_icmp .eq 5, 3) := by decide +kernel
theorem dL_law_1300 : decode cL_law 1300 = .ok (.iconst 0, 1) := by decide +kernel
theorem dL_law_1301 : decode cL_law 1301 = .ok (.ireturn, 1) := by decide +kernel
theorem dL_law_1302 : decode cL_law 1302 = .ok (.iload 5, 2) := by decide +kernel
theorem dL_law_1304 : decode cL_law 1304 = .ok (.ifCond .ne 15, 3) := by decide +kernel
theorem dL_law_1307 : decode cL_law 1307 = .ok (.aload_n 3, 1) := by decide +kernel
theorem dL_law_1308 : decode cL_law 1308 = .ok (.iconst 0, 1) := by decide +kernel
theorem dL_law_1309 : decode cL_law 1309 = .ok (.laload, 1) := by decide +kernel
theorem dL_law_1310 : decode cL_law 1310 = .ok (.iload 6, 2) := by decide +kernel
theorem dL_law_1312 : decode cL_law 1312 = .ok (.i2l, 1) := by decide +kernel
theorem dL_law_1313 : decode cL_law 1313 = .ok (.lcmp, 1) := by decide +kernel
theorem dL_law_1314 : decode cL_law 1314 = .ok (.ifCond .eq 5, 3) := by decide +kernel
theorem dL_law_1317 : decode cL_law 1317 = .ok (.iconst 0, 1) := by decide +kernel
theorem dL_law_1318 : decode cL_law 1318 = .ok (.ireturn, 1) := by decide +kernel
theorem dL_law_1319 : decode cL_law 1319 = .ok (.goto 59, 3) := by decide +kernel
theorem dL_law_1322 : decode cL_law 1322 = .ok (.aload_n 1, 1) := by decide +kernel
theorem dL_law_1323 : decode cL_law 1323 = .ok (.aload_n 0, 1) := by decide +kernel
theorem dL_law_1324 : decode cL_law 1324 = .ok (.iload 4, 2) := by decide +kernel
theorem dL_law_1326 : decode cL_law 1326 = .ok (.iconst 1, 1) := by decide +kernel
theorem dL_law_1327 : decode cL_law 1327 = .ok (.iadd, 1) := by decide +kernel
theorem dL_law_1328 : decode cL_law 1328 = .ok (.iaload, 1) := by decide +kernel
theorem dL_law_1329 : decode cL_law 1329 = .ok (.aload_n 3, 1) := by decide +kernel
theorem dL_law_1330 : decode cL_law 1330 = .ok (.invokestatic 141, 3) := by decide +kernel
theorem dL_law_1333 : decode cL_law 1333 = .ok (.istore 5, 2) := by decide +kernel
theorem dL_law_1335 : decode cL_law 1335 = .ok (.aload_n 2, 1) := by decide +kernel
theorem dL_law_1336 : decode cL_law 1336 = .ok (.aload_n 0, 1) := by decide +kernel
theorem dL_law_1337 : decode cL_law 1337 = .ok (.iload 4, 2) := by decide +kernel
theorem dL_law_1339 : decode cL_law 1339 = .ok (.iconst 1, 1) := by decide +kernel
theorem dL_law_1340 : decode cL_law 1340 = .ok (.iadd, 1) := by decide +kernel
theorem dL_law_1341 : decode cL_law 1341 = .ok (.iaload, 1) := by decide +kernel
theorem dL_law_1342 : decode cL_law 1342 = .ok (.invokevirtual 143, 3) := by decide +kernel
theorem dL_law_1345 : decode cL_law 1345 = .ok (.istore 6, 2) := by decide +kernel
theorem dL_law_1347 : decode cL_law 1347 = .ok (.aload_n 2, 1) := by decide +kernel
theorem dL_law_1348 : decode cL_law 1348 = .ok (.invokevirtual 85, 3) := by decide +kernel
theorem dL_law_1351 : decode cL_law 1351 = .ok (.iload 5, 2) := by decide +kernel
theorem dL_law_1353 : decode cL_law 1353 = .ok (.if_icmp .eq 5, 3) := by decide +kernel
theorem dL_law_1356 : decode cL_law 1356 = .ok (.iconst 0, 1) := by decide +kernel
theorem dL_law_1357 : decode cL_law 1357 = .ok (.ireturn, 1) := by decide +kernel
theorem dL_law_1358 : decode cL_law 1358 = .ok (.iload 5, 2) := by decide +kernel
theorem dL_law_1360 : decode cL_law 1360 = .ok (.ifCond .ne 15, 3) := by decide +kernel
theorem dL_law_1363 : decode cL_law 1363 = .ok (.aload_n 3, 1) := by decide +kernel
theorem dL_law_1364 : decode cL_law 1364 = .ok (.iconst 0, 1) := by decide +kernel
theorem dL_law_1365 : decode cL_law 1365 = .ok (.laload, 1) := by decide +kernel
theorem dL_law_1366 : decode cL_law 1366 = .ok (.iload 6, 2) := by decide +kernel
theorem dL_law_1368 : decode cL_law 1368 = .ok (.i2l, 1) := by decide +kernel
theorem dL_law_1369 : decode cL_law 1369 = .ok (.lcmp, 1) := by decide +kernel
theorem dL_law_1370 : decode cL_law 1370 = .ok (.ifCond .eq 5, 3) := by decide +kernel
theorem dL_law_1373 : decode cL_law 1373 = .ok (.iconst 0, 1) := by decide +kernel
theorem dL_law_1374 : decode cL_law 1374 = .ok (.ireturn, 1) := by decide +kernel
theorem dL_law_1375 : decode cL_law 1375 = .ok (.goto 3, 3) := by decide +kernel
theorem dL_law_1378 : decode cL_law 1378 = .ok (.iinc 4 5, 3) := by decide +kernel
theorem dL_law_1381 : decode cL_law 1381 = .ok (.goto (-1358), 3) := by decide +kernel
theorem dL_law_1384 : decode cL_law 1384 = .ok (.iconst 1, 1) := by decide +kernel
theorem dL_law_1385 : decode cL_law 1385 = .ok (.ireturn, 1) := by decide +kernel
end
section
/-! ===== THE WORLD: the vault's 43 cells (0 the vault, 1 its row of boxes, 2 the order book, 3..5 dead, heirs, refused, 6..10 the book's rows, 11.. the boxes, 19.., 27.., 35.. their rows), the model's 19 (43 the model, 44..61 its rows), 62 the law's row of one long. What they hold: rows of numbers, S the vault's, M the model's, z what was thrown and the law's long. Rows: 0 (0 the day, 1 the orders), 1 dead, 2 heirs, 3 refusals, 4 box of an order, 5 court, 6 kind, 7 person, 8 holds, 9 state, 10 holder, 11 paid, 12 owed, 13 entries, 14 looked, 15 proxies; of the vault 16 + j, 24 + j, 32 + j the proxies of box j, of the model 16, 17, 18 all of them ===== -/
abbrev bv_X : Type := Nat → Nat → Int32
abbrev bv_Z : Type := Int32 × Int64
abbrev bv_G : Type := va_G × (Nat → Nat) × (Nat → ClassId) × Nat
def bv_D (G : bv_G) : va_G := G.1
def bv_a (G : bv_G) : Nat → Nat := G.2.1
def bv_t (G : bv_G) : Nat → ClassId := G.2.2.1
def bv_n (G : bv_G) : Nat := G.2.2.2
def bv_A (G : bv_G) : Nat → Prop := fun q => bv_n G ≤ q
def bv_up (x : bv_X) (r i : Nat) (v : Int32) : bv_X := fun a => if a = r then upd (x r) i v else x a
theorem bv_up_s (x : bv_X) (r i : Nat) (v : Int32) : bv_up x r i v r = upd (x r) i v := if_pos rfl
theorem bv_up_n (x : bv_X) {r a : Nat} (i : Nat) (v : Int32) (h : a ≠ r) : bv_up x r i v a = x a := if_neg h
theorem bv_up_ss (x : bv_X) (r i : Nat) (v : Int32) : bv_up x r i v r i = v := by rw [bv_up_s]; exact if_pos rfl
theorem bv_up_sn (x : bv_X) (r : Nat) {i j : Nat} (v : Int32) (h : j ≠ i) : bv_up x r i v r j = x r j := by rw [bv_up_s]; exact if_neg h
/-- the model's rows: which, how long, of which kind -/
def bv_mr (k : Nat) : Nat := [1, 2, 3, 9, 10, 11, 13, 14, 12, 15, 16, 17, 18, 4, 5, 6, 7, 8].getD (k - 44) 0
def bv_ml (k : Nat) : Nat := [16, 16, 16, 8, 8, 8, 8, 8, 8, 8, 40, 40, 40, 30, 30, 30, 30, 30].getD (k - 44) 0
def bv_mt (k : Nat) : Nat := [1, 0, 0, 0, 0, 0, 0, 1, 0, 0, 0, 0, 0, 0, 0, 0, 0, 1].getD (k - 44) 0
def bv_E (G : bv_G) (S M : bv_X) (z : bv_Z) (k : Nat) : va_E :=
  if k = 0 then .inr (2, [.ref (bv_a G 1), .ref (bv_a G 2), .ref (bv_a G 3), .ref (bv_a G 4), .ref (bv_a G 5), .int (S 0 0)])
  else if k = 1 then .inl (bv_t G 2, 8, .inr (.inr (.inr (.inr (fun j => some (bv_a G (11 + j)))))))
  else if k = 2 then .inr (1, [.int (S 0 1), .ref (bv_a G 6), .ref (bv_a G 7), .ref (bv_a G 8), .ref (bv_a G 9), .ref (bv_a G 10)])
  else if k < 11 then .inl (bv_t G (if k = 3 ∨ k = 10 then 1 else 0), (if k < 6 then 16 else 30), .inl (S (k - 2)))
  else if k < 19 then .inr (0, [.int (S 9 (k - 11)), .int (S 10 (k - 11)), .int (S 11 (k - 11)), .int (S 12 (k - 11)), .int (S 13 (k - 11)), .int (S 14 (k - 11)), .int (S 15 (k - 11)), .ref (bv_a G (k + 8)), .ref (bv_a G (k + 16)), .ref (bv_a G (k + 24))])
  else if k < 43 then .inl (bv_t G 0, 5, .inl (S (k - 3)))
  else if k = 43 then .inr (3, [.int z.1, .int (M 0 0), .ref (bv_a G 44), .ref (bv_a G 45), .ref (bv_a G 46), .ref (bv_a G 47), .ref (bv_a G 48), .ref (bv_a G 49), .ref (bv_a G 50), .ref (bv_a G 51), .ref (bv_a G 52), .ref (bv_a G 53), .ref (bv_a G 54), .ref (bv_a G 55), .ref (bv_a G 56), .int (M 0 1), .ref (bv_a G 57), .ref (bv_a G 58), .ref (bv_a G 59), .ref (bv_a G 60), .ref (bv_a G 61)])
  else if k < 62 then .inl (bv_t G (bv_mt k), bv_ml k, .inl (M (bv_mr k)))
  else .inl (bv_t G 3, 1, .inr (.inl (fun _ => z.2)))
def bv_w (G : bv_G) (S M : bv_X) (z : bv_Z) : va_W := (List.range 63).map (fun k => (bv_a G k, bv_E G S M z k))
theorem bv_get {G : bv_G} {S M : bv_X} {z : bv_Z} {k : Nat} (hk : k < 63) : (bv_w G S M z)[k]? = some (bv_a G k, bv_E G S M z k) := by
  unfold bv_w
  rw [List.getElem?_map, List.getElem?_range hk]
  rfl
theorem bv_w_len {G : bv_G} {S M : bv_X} {z : bv_Z} : (bv_w G S M z).length = 63 := by simp [bv_w]
theorem bv_w_set {G : bv_G} {S M S' M' : bv_X} {z z' : bv_Z} {k : Nat} {e : va_E} (hk : k < 63) (he : bv_E G S' M' z' k = e) (h : ∀ i, i < 63 → i ≠ k → bv_E G S' M' z' i = bv_E G S M z i) : (bv_w G S M z).set k (bv_a G k, e) = bv_w G S' M' z' := by
  apply List.ext_getElem?
  intro i
  by_cases hi : i < 63
  · by_cases h2 : i = k
    · subst h2
      rw [List.getElem?_set_self (by rw [bv_w_len]; exact hi), bv_get hi, he]
    · rw [List.getElem?_set_ne (Ne.symm h2), bv_get hi, bv_get hi, h i hi h2]
  · rw [List.getElem?_eq_none (by rw [List.length_set, bv_w_len]; omega), List.getElem?_eq_none (by rw [bv_w_len]; omega)]
/-- the vault's part of a cell -/
theorem bv_eS {G : bv_G} {S S' M : bv_X} {z : bv_Z} {k : Nat} (h0 : k = 0 → S' 0 0 = S 0 0) (h2 : k = 2 → S' 0 1 = S 0 1) (hr : 3 ≤ k → k < 11 → S' (k - 2) = S (k - 2)) (hb : 11 ≤ k → k < 19 → ∀ r, 9 ≤ r → r < 16 → S' r (k - 11) = S r (k - 11)) (ha : 19 ≤ k → k < 43 → S' (k - 3) = S (k - 3)) : bv_E G S' M z k = bv_E G S M z k := by
  unfold bv_E
  by_cases q0 : k = 0
  · rw [if_pos q0, if_pos q0, h0 q0]
  rw [if_neg q0, if_neg q0]
  by_cases q1 : k = 1
  · rw [if_pos q1, if_pos q1]
  rw [if_neg q1, if_neg q1]
  by_cases q2 : k = 2
  · rw [if_pos q2, if_pos q2, h2 q2]
  rw [if_neg q2, if_neg q2]
  by_cases q3 : k < 11
  · rw [if_pos q3, if_pos q3, hr (by omega) q3]
  rw [if_neg q3, if_neg q3]
  by_cases q4 : k < 19
  · have hb := hb (by omega) q4
    rw [if_pos q4, if_pos q4, hb 9 (by omega) (by omega), hb 10 (by omega) (by omega), hb 11 (by omega) (by omega), hb 12 (by omega) (by omega), hb 13 (by omega) (by omega), hb 14 (by omega) (by omega), hb 15 (by omega) (by omega)]
  rw [if_neg q4, if_neg q4]
  by_cases q5 : k < 43
  · rw [if_pos q5, if_pos q5, ha (by omega) q5]
  rw [if_neg q5, if_neg q5]
/-- the model's part of a cell, and the rest -/
theorem bv_eM {G : bv_G} {S M M' : bv_X} {z z' : bv_Z} {k : Nat} (h43 : k = 43 → M' 0 0 = M 0 0 ∧ M' 0 1 = M 0 1 ∧ z'.1 = z.1) (ha : 44 ≤ k → k < 62 → M' (bv_mr k) = M (bv_mr k)) (hz : 62 ≤ k → z'.2 = z.2) : bv_E G S M' z' k = bv_E G S M z k := by
  unfold bv_E
  by_cases q0 : k = 0
  · rw [if_pos q0, if_pos q0]
  rw [if_neg q0, if_neg q0]
  by_cases q1 : k = 1
  · rw [if_pos q1, if_pos q1]
  rw [if_neg q1, if_neg q1]
  by_cases q2 : k = 2
  · rw [if_pos q2, if_pos q2]
  rw [if_neg q2, if_neg q2]
  by_cases q3 : k < 11
  · rw [if_pos q3, if_pos q3]
  rw [if_neg q3, if_neg q3]
  by_cases q4 : k < 19
  · rw [if_pos q4, if_pos q4]
  rw [if_neg q4, if_neg q4]
  by_cases q5 : k < 43
  · rw [if_pos q5, if_pos q5]
  rw [if_neg q5, if_neg q5]
  by_cases q6 : k = 43
  · obtain ⟨e1, e2, e3⟩ := h43 q6
    rw [if_pos q6, if_pos q6, e1, e2, e3]
  rw [if_neg q6, if_neg q6]
  by_cases q7 : k < 62
  · rw [if_pos q7, if_pos q7, ha (by omega) q7]
  rw [if_neg q7, if_neg q7, hz (by omega)]
theorem bv_up_o (x : bv_X) {r i a j : Nat} {v : Int32} (h : ¬ (a = r ∧ j = i)) : bv_up x r i v a j = x a j := by
  by_cases h1 : a = r
  · subst h1
    exact bv_up_sn _ _ _ (fun h2 => h ⟨rfl, h2⟩)
  · rw [bv_up_n _ _ _ h1]
theorem bv_mr0 {k : Nat} (h1 : 44 ≤ k) (h2 : k < 62) : bv_mr k ≠ 0 := by
  have h : ∀ k, k < 62 → 44 ≤ k → bv_mr k ≠ 0 := by decide
  exact h k h2 h1
theorem bv_mrk {t k : Nat} (h1 : 44 ≤ t) (h2 : t < 62) (h3 : 44 ≤ k) (h4 : k < 62) (hn : t ≠ k) : bv_mr t ≠ bv_mr k := by
  have h : ∀ a, a < 18 → ∀ b, b < 18 → a ≠ b → bv_mr (44 + a) ≠ bv_mr (44 + b) := by decide
  have h5 := h (t - 44) (by omega) (k - 44) (by omega) (by omega)
  rwa [show 44 + (t - 44) = t by omega, show 44 + (k - 44) = k by omega] at h5
theorem bv_c0 (G : bv_G) (S M : bv_X) (z : bv_Z) : (bv_w G S M z)[0]? = some (bv_a G 0, .inr (2, [.ref (bv_a G 1), .ref (bv_a G 2), .ref (bv_a G 3), .ref (bv_a G 4), .ref (bv_a G 5), .int (S 0 0)])) := bv_get (by decide)
theorem bv_c1 (G : bv_G) (S M : bv_X) (z : bv_Z) : (bv_w G S M z)[1]? = some (bv_a G 1, .inl (bv_t G 2, 8, .inr (.inr (.inr (.inr (fun j => some (bv_a G (11 + j)))))))) := bv_get (by decide)
theorem bv_c2 (G : bv_G) (S M : bv_X) (z : bv_Z) : (bv_w G S M z)[2]? = some (bv_a G 2, .inr (1, [.int (S 0 1), .ref (bv_a G 6), .ref (bv_a G 7), .ref (bv_a G 8), .ref (bv_a G 9), .ref (bv_a G 10)])) := bv_get (by decide)
theorem bv_c3 (G : bv_G) (S M : bv_X) (z : bv_Z) : (bv_w G S M z)[3]? = some (bv_a G 3, .inl (bv_t G 1, 16, .inl (S 1))) := bv_get (by decide)
theorem bv_c4 (G : bv_G) (S M : bv_X) (z : bv_Z) : (bv_w G S M z)[4]? = some (bv_a G 4, .inl (bv_t G 0, 16, .inl (S 2))) := bv_get (by decide)
theorem bv_c5 (G : bv_G) (S M : bv_X) (z : bv_Z) : (bv_w G S M z)[5]? = some (bv_a G 5, .inl (bv_t G 0, 16, .inl (S 3))) := bv_get (by decide)
theorem bv_c6 (G : bv_G) (S M : bv_X) (z : bv_Z) : (bv_w G S M z)[6]? = some (bv_a G 6, .inl (bv_t G 0, 30, .inl (S 4))) := bv_get (by decide)
theorem bv_c7 (G : bv_G) (S M : bv_X) (z : bv_Z) : (bv_w G S M z)[7]? = some (bv_a G 7, .inl (bv_t G 0, 30, .inl (S 5))) := bv_get (by decide)
theorem bv_c8 (G : bv_G) (S M : bv_X) (z : bv_Z) : (bv_w G S M z)[8]? = some (bv_a G 8, .inl (bv_t G 0, 30, .inl (S 6))) := bv_get (by decide)
theorem bv_c9 (G : bv_G) (S M : bv_X) (z : bv_Z) : (bv_w G S M z)[9]? = some (bv_a G 9, .inl (bv_t G 0, 30, .inl (S 7))) := bv_get (by decide)
theorem bv_c10 (G : bv_G) (S M : bv_X) (z : bv_Z) : (bv_w G S M z)[10]? = some (bv_a G 10, .inl (bv_t G 1, 30, .inl (S 8))) := bv_get (by decide)
theorem bv_eB (G : bv_G) (S M : bv_X) (z : bv_Z) {j : Nat} (hj : j < 8) : bv_E G S M z (11 + j) = .inr (0, [.int (S 9 j), .int (S 10 j), .int (S 11 j), .int (S 12 j), .int (S 13 j), .int (S 14 j), .int (S 15 j), .ref (bv_a G (19 + j)), .ref (bv_a G (27 + j)), .ref (bv_a G (35 + j))]) := by
  unfold bv_E
  rw [if_neg (by omega), if_neg (by omega), if_neg (by omega), if_neg (by omega), if_pos (by omega), show 11 + j - 11 = j by omega, show 11 + j + 8 = 19 + j by omega, show 11 + j + 16 = 27 + j by omega, show 11 + j + 24 = 35 + j by omega]
theorem bv_cB (G : bv_G) (S M : bv_X) (z : bv_Z) {j : Nat} (hj : j < 8) : (bv_w G S M z)[11 + j]? = some (bv_a G (11 + j), .inr (0, [.int (S 9 j), .int (S 10 j), .int (S 11 j), .int (S 12 j), .int (S 13 j), .int (S 14 j), .int (S 15 j), .ref (bv_a G (19 + j)), .ref (bv_a G (27 + j)), .ref (bv_a G (35 + j))])) := (bv_get (by omega)).trans (congrArg (fun e => some (bv_a G (11 + j), e)) (bv_eB G S M z hj))
theorem bv_eP19 (G : bv_G) (S M : bv_X) (z : bv_Z) {j : Nat} (hj : j < 8) : bv_E G S M z (19 + j) = .inl (bv_t G 0, 5, .inl (S (16 + j))) := by
  unfold bv_E
  rw [if_neg (by omega), if_neg (by omega), if_neg (by omega), if_neg (by omega), if_neg (by omega), if_pos (by omega), show 19 + j - 3 = 16 + j by omega]
theorem bv_cP19 (G : bv_G) (S M : bv_X) (z : bv_Z) {j : Nat} (hj : j < 8) : (bv_w G S M z)[19 + j]? = some (bv_a G (19 + j), .inl (bv_t G 0, 5, .inl (S (16 + j)))) := (bv_get (by omega)).trans (congrArg (fun e => some (bv_a G (19 + j), e)) (bv_eP19 G S M z hj))
theorem bv_eP27 (G : bv_G) (S M : bv_X) (z : bv_Z) {j : Nat} (hj : j < 8) : bv_E G S M z (27 + j) = .inl (bv_t G 0, 5, .inl (S (24 + j))) := by
  unfold bv_E
  rw [if_neg (by omega), if_neg (by omega), if_neg (by omega), if_neg (by omega), if_neg (by omega), if_pos (by omega), show 27 + j - 3 = 24 + j by omega]
theorem bv_cP27 (G : bv_G) (S M : bv_X) (z : bv_Z) {j : Nat} (hj : j < 8) : (bv_w G S M z)[27 + j]? = some (bv_a G (27 + j), .inl (bv_t G 0, 5, .inl (S (24 + j)))) := (bv_get (by omega)).trans (congrArg (fun e => some (bv_a G (27 + j), e)) (bv_eP27 G S M z hj))
theorem bv_eP35 (G : bv_G) (S M : bv_X) (z : bv_Z) {j : Nat} (hj : j < 8) : bv_E G S M z (35 + j) = .inl (bv_t G 0, 5, .inl (S (32 + j))) := by
  unfold bv_E
  rw [if_neg (by omega), if_neg (by omega), if_neg (by omega), if_neg (by omega), if_neg (by omega), if_pos (by omega), show 35 + j - 3 = 32 + j by omega]
theorem bv_cP35 (G : bv_G) (S M : bv_X) (z : bv_Z) {j : Nat} (hj : j < 8) : (bv_w G S M z)[35 + j]? = some (bv_a G (35 + j), .inl (bv_t G 0, 5, .inl (S (32 + j)))) := (bv_get (by omega)).trans (congrArg (fun e => some (bv_a G (35 + j), e)) (bv_eP35 G S M z hj))
theorem bv_c43 (G : bv_G) (S M : bv_X) (z : bv_Z) : (bv_w G S M z)[43]? = some (bv_a G 43, .inr (3, [.int z.1, .int (M 0 0), .ref (bv_a G 44), .ref (bv_a G 45), .ref (bv_a G 46), .ref (bv_a G 47), .ref (bv_a G 48), .ref (bv_a G 49), .ref (bv_a G 50), .ref (bv_a G 51), .ref (bv_a G 52), .ref (bv_a G 53), .ref (bv_a G 54), .ref (bv_a G 55), .ref (bv_a G 56), .int (M 0 1), .ref (bv_a G 57), .ref (bv_a G 58), .ref (bv_a G 59), .ref (bv_a G 60), .ref (bv_a G 61)])) := bv_get (by decide)
theorem bv_c44 (G : bv_G) (S M : bv_X) (z : bv_Z) : (bv_w G S M z)[44]? = some (bv_a G 44, .inl (bv_t G 1, 16, .inl (M 1))) := bv_get (by decide)
theorem bv_c45 (G : bv_G) (S M : bv_X) (z : bv_Z) : (bv_w G S M z)[45]? = some (bv_a G 45, .inl (bv_t G 0, 16, .inl (M 2))) := bv_get (by decide)
theorem bv_c46 (G : bv_G) (S M : bv_X) (z : bv_Z) : (bv_w G S M z)[46]? = some (bv_a G 46, .inl (bv_t G 0, 16, .inl (M 3))) := bv_get (by decide)
theorem bv_c47 (G : bv_G) (S M : bv_X) (z : bv_Z) : (bv_w G S M z)[47]? = some (bv_a G 47, .inl (bv_t G 0, 8, .inl (M 9))) := bv_get (by decide)
theorem bv_c48 (G : bv_G) (S M : bv_X) (z : bv_Z) : (bv_w G S M z)[48]? = some (bv_a G 48, .inl (bv_t G 0, 8, .inl (M 10))) := bv_get (by decide)
theorem bv_c49 (G : bv_G) (S M : bv_X) (z : bv_Z) : (bv_w G S M z)[49]? = some (bv_a G 49, .inl (bv_t G 0, 8, .inl (M 11))) := bv_get (by decide)
theorem bv_c50 (G : bv_G) (S M : bv_X) (z : bv_Z) : (bv_w G S M z)[50]? = some (bv_a G 50, .inl (bv_t G 0, 8, .inl (M 13))) := bv_get (by decide)
theorem bv_c51 (G : bv_G) (S M : bv_X) (z : bv_Z) : (bv_w G S M z)[51]? = some (bv_a G 51, .inl (bv_t G 1, 8, .inl (M 14))) := bv_get (by decide)
theorem bv_c52 (G : bv_G) (S M : bv_X) (z : bv_Z) : (bv_w G S M z)[52]? = some (bv_a G 52, .inl (bv_t G 0, 8, .inl (M 12))) := bv_get (by decide)
theorem bv_c53 (G : bv_G) (S M : bv_X) (z : bv_Z) : (bv_w G S M z)[53]? = some (bv_a G 53, .inl (bv_t G 0, 8, .inl (M 15))) := bv_get (by decide)
theorem bv_c54 (G : bv_G) (S M : bv_X) (z : bv_Z) : (bv_w G S M z)[54]? = some (bv_a G 54, .inl (bv_t G 0, 40, .inl (M 16))) := bv_get (by decide)
theorem bv_c55 (G : bv_G) (S M : bv_X) (z : bv_Z) : (bv_w G S M z)[55]? = some (bv_a G 55, .inl (bv_t G 0, 40, .inl (M 17))) := bv_get (by decide)
theorem bv_c56 (G : bv_G) (S M : bv_X) (z : bv_Z) : (bv_w G S M z)[56]? = some (bv_a G 56, .inl (bv_t G 0, 40, .inl (M 18))) := bv_get (by decide)
theorem bv_c57 (G : bv_G) (S M : bv_X) (z : bv_Z) : (bv_w G S M z)[57]? = some (bv_a G 57, .inl (bv_t G 0, 30, .inl (M 4))) := bv_get (by decide)
theorem bv_c58 (G : bv_G) (S M : bv_X) (z : bv_Z) : (bv_w G S M z)[58]? = some (bv_a G 58, .inl (bv_t G 0, 30, .inl (M 5))) := bv_get (by decide)
theorem bv_c59 (G : bv_G) (S M : bv_X) (z : bv_Z) : (bv_w G S M z)[59]? = some (bv_a G 59, .inl (bv_t G 0, 30, .inl (M 6))) := bv_get (by decide)
theorem bv_c60 (G : bv_G) (S M : bv_X) (z : bv_Z) : (bv_w G S M z)[60]? = some (bv_a G 60, .inl (bv_t G 0, 30, .inl (M 7))) := bv_get (by decide)
theorem bv_c61 (G : bv_G) (S M : bv_X) (z : bv_Z) : (bv_w G S M z)[61]? = some (bv_a G 61, .inl (bv_t G 1, 30, .inl (M 8))) := bv_get (by decide)
theorem bv_c62 (G : bv_G) (S M : bv_X) (z : bv_Z) : (bv_w G S M z)[62]? = some (bv_a G 62, .inl (bv_t G 3, 1, .inr (.inl (fun _ => z.2)))) := bv_get (by decide)
theorem bv_s0 (G : bv_G) (S M : bv_X) (z : bv_Z) (v : Int32) : (bv_w G S M z).set 0 (bv_a G 0, .inr (2, [.ref (bv_a G 1), .ref (bv_a G 2), .ref (bv_a G 3), .ref (bv_a G 4), .ref (bv_a G 5), .int v])) = bv_w G (bv_up S 0 0 v) M z := bv_w_set (by omega) rfl (fun t ht hn => bv_eS (fun h => absurd h hn) (fun _ => bv_up_sn _ _ _ (by omega)) (fun _ _ => bv_up_n _ _ _ (by omega)) (fun _ _ r _ _ => by rw [bv_up_n _ _ _ (by omega)]) (fun _ _ => bv_up_n _ _ _ (by omega)))
theorem bv_s2 (G : bv_G) (S M : bv_X) (z : bv_Z) (v : Int32) : (bv_w G S M z).set 2 (bv_a G 2, .inr (1, [.int v, .ref (bv_a G 6), .ref (bv_a G 7), .ref (bv_a G 8), .ref (bv_a G 9), .ref (bv_a G 10)])) = bv_w G (bv_up S 0 1 v) M z := bv_w_set (by omega) rfl (fun t ht hn => bv_eS (fun _ => bv_up_sn _ _ _ (by omega)) (fun h => absurd h hn) (fun _ _ => bv_up_n _ _ _ (by omega)) (fun _ _ r _ _ => by rw [bv_up_n _ _ _ (by omega)]) (fun _ _ => bv_up_n _ _ _ (by omega)))
theorem bv_s3 (G : bv_G) (S M : bv_X) (z : bv_Z) (i : Nat) (v : Int32) : (bv_w G S M z).set 3 (bv_a G 3, .inl (bv_t G 1, 16, .inl (upd (S 1) i v))) = bv_w G (bv_up S 1 i v) M z := bv_w_set (by omega) rfl (fun t ht hn => bv_eS (fun _ => by rw [bv_up_n _ _ _ (by omega)]) (fun _ => by rw [bv_up_n _ _ _ (by omega)]) (fun _ _ => bv_up_n _ _ _ (by omega)) (fun _ _ r _ _ => by rw [bv_up_n _ _ _ (by omega)]) (fun _ _ => bv_up_n _ _ _ (by omega)))
theorem bv_s4 (G : bv_G) (S M : bv_X) (z : bv_Z) (i : Nat) (v : Int32) : (bv_w G S M z).set 4 (bv_a G 4, .inl (bv_t G 0, 16, .inl (upd (S 2) i v))) = bv_w G (bv_up S 2 i v) M z := bv_w_set (by omega) rfl (fun t ht hn => bv_eS (fun _ => by rw [bv_up_n _ _ _ (by omega)]) (fun _ => by rw [bv_up_n _ _ _ (by omega)]) (fun _ _ => bv_up_n _ _ _ (by omega)) (fun _ _ r _ _ => by rw [bv_up_n _ _ _ (by omega)]) (fun _ _ => bv_up_n _ _ _ (by omega)))
theorem bv_s5 (G : bv_G) (S M : bv_X) (z : bv_Z) (i : Nat) (v : Int32) : (bv_w G S M z).set 5 (bv_a G 5, .inl (bv_t G 0, 16, .inl (upd (S 3) i v))) = bv_w G (bv_up S 3 i v) M z := bv_w_set (by omega) rfl (fun t ht hn => bv_eS (fun _ => by rw [bv_up_n _ _ _ (by omega)]) (fun _ => by rw [bv_up_n _ _ _ (by omega)]) (fun _ _ => bv_up_n _ _ _ (by omega)) (fun _ _ r _ _ => by rw [bv_up_n _ _ _ (by omega)]) (fun _ _ => bv_up_n _ _ _ (by omega)))
theorem bv_s6 (G : bv_G) (S M : bv_X) (z : bv_Z) (i : Nat) (v : Int32) : (bv_w G S M z).set 6 (bv_a G 6, .inl (bv_t G 0, 30, .inl (upd (S 4) i v))) = bv_w G (bv_up S 4 i v) M z := bv_w_set (by omega) rfl (fun t ht hn => bv_eS (fun _ => by rw [bv_up_n _ _ _ (by omega)]) (fun _ => by rw [bv_up_n _ _ _ (by omega)]) (fun _ _ => bv_up_n _ _ _ (by omega)) (fun _ _ r _ _ => by rw [bv_up_n _ _ _ (by omega)]) (fun _ _ => bv_up_n _ _ _ (by omega)))
theorem bv_s7 (G : bv_G) (S M : bv_X) (z : bv_Z) (i : Nat) (v : Int32) : (bv_w G S M z).set 7 (bv_a G 7, .inl (bv_t G 0, 30, .inl (upd (S 5) i v))) = bv_w G (bv_up S 5 i v) M z := bv_w_set (by omega) rfl (fun t ht hn => bv_eS (fun _ => by rw [bv_up_n _ _ _ (by omega)]) (fun _ => by rw [bv_up_n _ _ _ (by omega)]) (fun _ _ => bv_up_n _ _ _ (by omega)) (fun _ _ r _ _ => by rw [bv_up_n _ _ _ (by omega)]) (fun _ _ => bv_up_n _ _ _ (by omega)))
theorem bv_s8 (G : bv_G) (S M : bv_X) (z : bv_Z) (i : Nat) (v : Int32) : (bv_w G S M z).set 8 (bv_a G 8, .inl (bv_t G 0, 30, .inl (upd (S 6) i v))) = bv_w G (bv_up S 6 i v) M z := bv_w_set (by omega) rfl (fun t ht hn => bv_eS (fun _ => by rw [bv_up_n _ _ _ (by omega)]) (fun _ => by rw [bv_up_n _ _ _ (by omega)]) (fun _ _ => bv_up_n _ _ _ (by omega)) (fun _ _ r _ _ => by rw [bv_up_n _ _ _ (by omega)]) (fun _ _ => bv_up_n _ _ _ (by omega)))
theorem bv_s9 (G : bv_G) (S M : bv_X) (z : bv_Z) (i : Nat) (v : Int32) : (bv_w G S M z).set 9 (bv_a G 9, .inl (bv_t G 0, 30, .inl (upd (S 7) i v))) = bv_w G (bv_up S 7 i v) M z := bv_w_set (by omega) rfl (fun t ht hn => bv_eS (fun _ => by rw [bv_up_n _ _ _ (by omega)]) (fun _ => by rw [bv_up_n _ _ _ (by omega)]) (fun _ _ => bv_up_n _ _ _ (by omega)) (fun _ _ r _ _ => by rw [bv_up_n _ _ _ (by omega)]) (fun _ _ => bv_up_n _ _ _ (by omega)))
theorem bv_s10 (G : bv_G) (S M : bv_X) (z : bv_Z) (i : Nat) (v : Int32) : (bv_w G S M z).set 10 (bv_a G 10, .inl (bv_t G 1, 30, .inl (upd (S 8) i v))) = bv_w G (bv_up S 8 i v) M z := bv_w_set (by omega) rfl (fun t ht hn => bv_eS (fun _ => by rw [bv_up_n _ _ _ (by omega)]) (fun _ => by rw [bv_up_n _ _ _ (by omega)]) (fun _ _ => bv_up_n _ _ _ (by omega)) (fun _ _ r _ _ => by rw [bv_up_n _ _ _ (by omega)]) (fun _ _ => bv_up_n _ _ _ (by omega)))
theorem bv_sB9 (G : bv_G) (S M : bv_X) (z : bv_Z) {j : Nat} (hj : j < 8) (v : Int32) : (bv_w G S M z).set (11 + j) (bv_a G (11 + j), .inr (0, [.int v, .int (S 10 j), .int (S 11 j), .int (S 12 j), .int (S 13 j), .int (S 14 j), .int (S 15 j), .ref (bv_a G (19 + j)), .ref (bv_a G (27 + j)), .ref (bv_a G (35 + j))])) = bv_w G (bv_up S 9 j v) M z := bv_w_set (by omega) ((bv_eB G (bv_up S 9 j v) M z hj).trans (by rw [bv_up_ss, (show bv_up S 9 j v 10 = S 10 from bv_up_n _ _ _ (by decide)), (show bv_up S 9 j v 11 = S 11 from bv_up_n _ _ _ (by decide)), (show bv_up S 9 j v 12 = S 12 from bv_up_n _ _ _ (by decide)), (show bv_up S 9 j v 13 = S 13 from bv_up_n _ _ _ (by decide)), (show bv_up S 9 j v 14 = S 14 from bv_up_n _ _ _ (by decide)), (show bv_up S 9 j v 15 = S 15 from bv_up_n _ _ _ (by decide))])) (fun t ht hn => bv_eS (fun _ => by rw [bv_up_n _ _ _ (by omega)]) (fun _ => by rw [bv_up_n _ _ _ (by omega)]) (fun _ _ => bv_up_n _ _ _ (by omega)) (fun _ _ r _ _ => bv_up_o _ (by omega)) (fun _ _ => bv_up_n _ _ _ (by omega)))
theorem bv_sB10 (G : bv_G) (S M : bv_X) (z : bv_Z) {j : Nat} (hj : j < 8) (v : Int32) : (bv_w G S M z).set (11 + j) (bv_a G (11 + j), .inr (0, [.int (S 9 j), .int v, .int (S 11 j), .int (S 12 j), .int (S 13 j), .int (S 14 j), .int (S 15 j), .ref (bv_a G (19 + j)), .ref (bv_a G (27 + j)), .ref (bv_a G (35 + j))])) = bv_w G (bv_up S 10 j v) M z := bv_w_set (by omega) ((bv_eB G (bv_up S 10 j v) M z hj).trans (by rw [(show bv_up S 10 j v 9 = S 9 from bv_up_n _ _ _ (by decide)), bv_up_ss, (show bv_up S 10 j v 11 = S 11 from bv_up_n _ _ _ (by decide)), (show bv_up S 10 j v 12 = S 12 from bv_up_n _ _ _ (by decide)), (show bv_up S 10 j v 13 = S 13 from bv_up_n _ _ _ (by decide)), (show bv_up S 10 j v 14 = S 14 from bv_up_n _ _ _ (by decide)), (show bv_up S 10 j v 15 = S 15 from bv_up_n _ _ _ (by decide))])) (fun t ht hn => bv_eS (fun _ => by rw [bv_up_n _ _ _ (by omega)]) (fun _ => by rw [bv_up_n _ _ _ (by omega)]) (fun _ _ => bv_up_n _ _ _ (by omega)) (fun _ _ r _ _ => bv_up_o _ (by omega)) (fun _ _ => bv_up_n _ _ _ (by omega)))
theorem bv_sB11 (G : bv_G) (S M : bv_X) (z : bv_Z) {j : Nat} (hj : j < 8) (v : Int32) : (bv_w G S M z).set (11 + j) (bv_a G (11 + j), .inr (0, [.int (S 9 j), .int (S 10 j), .int v, .int (S 12 j), .int (S 13 j), .int (S 14 j), .int (S 15 j), .ref (bv_a G (19 + j)), .ref (bv_a G (27 + j)), .ref (bv_a G (35 + j))])) = bv_w G (bv_up S 11 j v) M z := bv_w_set (by omega) ((bv_eB G (bv_up S 11 j v) M z hj).trans (by rw [(show bv_up S 11 j v 9 = S 9 from bv_up_n _ _ _ (by decide)), (show bv_up S 11 j v 10 = S 10 from bv_up_n _ _ _ (by decide)), bv_up_ss, (show bv_up S 11 j v 12 = S 12 from bv_up_n _ _ _ (by decide)), (show bv_up S 11 j v 13 = S 13 from bv_up_n _ _ _ (by decide)), (show bv_up S 11 j v 14 = S 14 from bv_up_n _ _ _ (by decide)), (show bv_up S 11 j v 15 = S 15 from bv_up_n _ _ _ (by decide))])) (fun t ht hn => bv_eS (fun _ => by rw [bv_up_n _ _ _ (by omega)]) (fun _ => by rw [bv_up_n _ _ _ (by omega)]) (fun _ _ => bv_up_n _ _ _ (by omega)) (fun _ _ r _ _ => bv_up_o _ (by omega)) (fun _ _ => bv_up_n _ _ _ (by omega)))
theorem bv_sB12 (G : bv_G) (S M : bv_X) (z : bv_Z) {j : Nat} (hj : j < 8) (v : Int32) : (bv_w G S M z).set (11 + j) (bv_a G (11 + j), .inr (0, [.int (S 9 j), .int (S 10 j), .int (S 11 j), .int v, .int (S 13 j), .int (S 14 j), .int (S 15 j), .ref (bv_a G (19 + j)), .ref (bv_a G (27 + j)), .ref (bv_a G (35 + j))])) = bv_w G (bv_up S 12 j v) M z := bv_w_set (by omega) ((bv_eB G (bv_up S 12 j v) M z hj).trans (by rw [(show bv_up S 12 j v 9 = S 9 from bv_up_n _ _ _ (by decide)), (show bv_up S 12 j v 10 = S 10 from bv_up_n _ _ _ (by decide)), (show bv_up S 12 j v 11 = S 11 from bv_up_n _ _ _ (by decide)), bv_up_ss, (show bv_up S 12 j v 13 = S 13 from bv_up_n _ _ _ (by decide)), (show bv_up S 12 j v 14 = S 14 from bv_up_n _ _ _ (by decide)), (show bv_up S 12 j v 15 = S 15 from bv_up_n _ _ _ (by decide))])) (fun t ht hn => bv_eS (fun _ => by rw [bv_up_n _ _ _ (by omega)]) (fun _ => by rw [bv_up_n _ _ _ (by omega)]) (fun _ _ => bv_up_n _ _ _ (by omega)) (fun _ _ r _ _ => bv_up_o _ (by omega)) (fun _ _ => bv_up_n _ _ _ (by omega)))
theorem bv_sB13 (G : bv_G) (S M : bv_X) (z : bv_Z) {j : Nat} (hj : j < 8) (v : Int32) : (bv_w G S M z).set (11 + j) (bv_a G (11 + j), .inr (0, [.int (S 9 j), .int (S 10 j), .int (S 11 j), .int (S 12 j), .int v, .int (S 14 j), .int (S 15 j), .ref (bv_a G (19 + j)), .ref (bv_a G (27 + j)), .ref (bv_a G (35 + j))])) = bv_w G (bv_up S 13 j v) M z := bv_w_set (by omega) ((bv_eB G (bv_up S 13 j v) M z hj).trans (by rw [(show bv_up S 13 j v 9 = S 9 from bv_up_n _ _ _ (by decide)), (show bv_up S 13 j v 10 = S 10 from bv_up_n _ _ _ (by decide)), (show bv_up S 13 j v 11 = S 11 from bv_up_n _ _ _ (by decide)), (show bv_up S 13 j v 12 = S 12 from bv_up_n _ _ _ (by decide)), bv_up_ss, (show bv_up S 13 j v 14 = S 14 from bv_up_n _ _ _ (by decide)), (show bv_up S 13 j v 15 = S 15 from bv_up_n _ _ _ (by decide))])) (fun t ht hn => bv_eS (fun _ => by rw [bv_up_n _ _ _ (by omega)]) (fun _ => by rw [bv_up_n _ _ _ (by omega)]) (fun _ _ => bv_up_n _ _ _ (by omega)) (fun _ _ r _ _ => bv_up_o _ (by omega)) (fun _ _ => bv_up_n _ _ _ (by omega)))
theorem bv_sB14 (G : bv_G) (S M : bv_X) (z : bv_Z) {j : Nat} (hj : j < 8) (v : Int32) : (bv_w G S M z).set (11 + j) (bv_a G (11 + j), .inr (0, [.int (S 9 j), .int (S 10 j), .int (S 11 j), .int (S 12 j), .int (S 13 j), .int v, .int (S 15 j), .ref (bv_a G (19 + j)), .ref (bv_a G (27 + j)), .ref (bv_a G (35 + j))])) = bv_w G (bv_up S 14 j v) M z := bv_w_set (by omega) ((bv_eB G (bv_up S 14 j v) M z hj).trans (by rw [(show bv_up S 14 j v 9 = S 9 from bv_up_n _ _ _ (by decide)), (show bv_up S 14 j v 10 = S 10 from bv_up_n _ _ _ (by decide)), (show bv_up S 14 j v 11 = S 11 from bv_up_n _ _ _ (by decide)), (show bv_up S 14 j v 12 = S 12 from bv_up_n _ _ _ (by decide)), (show bv_up S 14 j v 13 = S 13 from bv_up_n _ _ _ (by decide)), bv_up_ss, (show bv_up S 14 j v 15 = S 15 from bv_up_n _ _ _ (by decide))])) (fun t ht hn => bv_eS (fun _ => by rw [bv_up_n _ _ _ (by omega)]) (fun _ => by rw [bv_up_n _ _ _ (by omega)]) (fun _ _ => bv_up_n _ _ _ (by omega)) (fun _ _ r _ _ => bv_up_o _ (by omega)) (fun _ _ => bv_up_n _ _ _ (by omega)))
theorem bv_sB15 (G : bv_G) (S M : bv_X) (z : bv_Z) {j : Nat} (hj : j < 8) (v : Int32) : (bv_w G S M z).set (11 + j) (bv_a G (11 + j), .inr (0, [.int (S 9 j), .int (S 10 j), .int (S 11 j), .int (S 12 j), .int (S 13 j), .int (S 14 j), .int v, .ref (bv_a G (19 + j)), .ref (bv_a G (27 + j)), .ref (bv_a G (35 + j))])) = bv_w G (bv_up S 15 j v) M z := bv_w_set (by omega) ((bv_eB G (bv_up S 15 j v) M z hj).trans (by rw [(show bv_up S 15 j v 9 = S 9 from bv_up_n _ _ _ (by decide)), (show bv_up S 15 j v 10 = S 10 from bv_up_n _ _ _ (by decide)), (show bv_up S 15 j v 11 = S 11 from bv_up_n _ _ _ (by decide)), (show bv_up S 15 j v 12 = S 12 from bv_up_n _ _ _ (by decide)), (show bv_up S 15 j v 13 = S 13 from bv_up_n _ _ _ (by decide)), (show bv_up S 15 j v 14 = S 14 from bv_up_n _ _ _ (by decide)), bv_up_ss])) (fun t ht hn => bv_eS (fun _ => by rw [bv_up_n _ _ _ (by omega)]) (fun _ => by rw [bv_up_n _ _ _ (by omega)]) (fun _ _ => bv_up_n _ _ _ (by omega)) (fun _ _ r _ _ => bv_up_o _ (by omega)) (fun _ _ => bv_up_n _ _ _ (by omega)))
theorem bv_sP19 (G : bv_G) (S M : bv_X) (z : bv_Z) {j : Nat} (hj : j < 8) (i : Nat) (v : Int32) : (bv_w G S M z).set (19 + j) (bv_a G (19 + j), .inl (bv_t G 0, 5, .inl (upd (S (16 + j)) i v))) = bv_w G (bv_up S (16 + j) i v) M z := bv_w_set (by omega) ((bv_eP19 G (bv_up S (16 + j) i v) M z hj).trans (by rw [bv_up_s])) (fun t ht hn => bv_eS (fun _ => by rw [bv_up_n _ _ _ (by omega)]) (fun _ => by rw [bv_up_n _ _ _ (by omega)]) (fun _ _ => bv_up_n _ _ _ (by omega)) (fun _ _ r _ _ => by rw [bv_up_n _ _ _ (by omega)]) (fun _ _ => bv_up_n _ _ _ (by omega)))
theorem bv_sP27 (G : bv_G) (S M : bv_X) (z : bv_Z) {j : Nat} (hj : j < 8) (i : Nat) (v : Int32) : (bv_w G S M z).set (27 + j) (bv_a G (27 + j), .inl (bv_t G 0, 5, .inl (upd (S (24 + j)) i v))) = bv_w G (bv_up S (24 + j) i v) M z := bv_w_set (by omega) ((bv_eP27 G (bv_up S (24 + j) i v) M z hj).trans (by rw [bv_up_s])) (fun t ht hn => bv_eS (fun _ => by rw [bv_up_n _ _ _ (by omega)]) (fun _ => by rw [bv_up_n _ _ _ (by omega)]) (fun _ _ => bv_up_n _ _ _ (by omega)) (fun _ _ r _ _ => by rw [bv_up_n _ _ _ (by omega)]) (fun _ _ => bv_up_n _ _ _ (by omega)))
theorem bv_sP35 (G : bv_G) (S M : bv_X) (z : bv_Z) {j : Nat} (hj : j < 8) (i : Nat) (v : Int32) : (bv_w G S M z).set (35 + j) (bv_a G (35 + j), .inl (bv_t G 0, 5, .inl (upd (S (32 + j)) i v))) = bv_w G (bv_up S (32 + j) i v) M z := bv_w_set (by omega) ((bv_eP35 G (bv_up S (32 + j) i v) M z hj).trans (by rw [bv_up_s])) (fun t ht hn => bv_eS (fun _ => by rw [bv_up_n _ _ _ (by omega)]) (fun _ => by rw [bv_up_n _ _ _ (by omega)]) (fun _ _ => bv_up_n _ _ _ (by omega)) (fun _ _ r _ _ => by rw [bv_up_n _ _ _ (by omega)]) (fun _ _ => bv_up_n _ _ _ (by omega)))
theorem bv_sth (G : bv_G) (S M : bv_X) (z : bv_Z) (v : Int32) : (bv_w G S M z).set 43 (bv_a G 43, .inr (3, [.int v, .int (M 0 0), .ref (bv_a G 44), .ref (bv_a G 45), .ref (bv_a G 46), .ref (bv_a G 47), .ref (bv_a G 48), .ref (bv_a G 49), .ref (bv_a G 50), .ref (bv_a G 51), .ref (bv_a G 52), .ref (bv_a G 53), .ref (bv_a G 54), .ref (bv_a G 55), .ref (bv_a G 56), .int (M 0 1), .ref (bv_a G 57), .ref (bv_a G 58), .ref (bv_a G 59), .ref (bv_a G 60), .ref (bv_a G 61)])) = bv_w G S M (v, z.2) := bv_w_set (by omega) rfl (fun t ht hn => bv_eM (fun h => absurd h hn) (fun _ _ => rfl) (fun _ => rfl))
theorem bv_snow (G : bv_G) (S M : bv_X) (z : bv_Z) (v : Int32) : (bv_w G S M z).set 43 (bv_a G 43, .inr (3, [.int z.1, .int v, .ref (bv_a G 44), .ref (bv_a G 45), .ref (bv_a G 46), .ref (bv_a G 47), .ref (bv_a G 48), .ref (bv_a G 49), .ref (bv_a G 50), .ref (bv_a G 51), .ref (bv_a G 52), .ref (bv_a G 53), .ref (bv_a G 54), .ref (bv_a G 55), .ref (bv_a G 56), .int (M 0 1), .ref (bv_a G 57), .ref (bv_a G 58), .ref (bv_a G 59), .ref (bv_a G 60), .ref (bv_a G 61)])) = bv_w G S (bv_up M 0 0 v) z := bv_w_set (by omega) rfl (fun t ht hn => bv_eM (fun h => absurd h hn) (fun h1 h2 => bv_up_n _ _ _ (bv_mr0 h1 h2)) (fun _ => rfl))
theorem bv_sord (G : bv_G) (S M : bv_X) (z : bv_Z) (v : Int32) : (bv_w G S M z).set 43 (bv_a G 43, .inr (3, [.int z.1, .int (M 0 0), .ref (bv_a G 44), .ref (bv_a G 45), .ref (bv_a G 46), .ref (bv_a G 47), .ref (bv_a G 48), .ref (bv_a G 49), .ref (bv_a G 50), .ref (bv_a G 51), .ref (bv_a G 52), .ref (bv_a G 53), .ref (bv_a G 54), .ref (bv_a G 55), .ref (bv_a G 56), .int v, .ref (bv_a G 57), .ref (bv_a G 58), .ref (bv_a G 59), .ref (bv_a G 60), .ref (bv_a G 61)])) = bv_w G S (bv_up M 0 1 v) z := bv_w_set (by omega) rfl (fun t ht hn => bv_eM (fun h => absurd h hn) (fun h1 h2 => bv_up_n _ _ _ (bv_mr0 h1 h2)) (fun _ => rfl))
theorem bv_s44 (G : bv_G) (S M : bv_X) (z : bv_Z) (i : Nat) (v : Int32) : (bv_w G S M z).set 44 (bv_a G 44, .inl (bv_t G 1, 16, .inl (upd (M 1) i v))) = bv_w G S (bv_up M 1 i v) z := bv_w_set (by omega) rfl (fun t ht hn => bv_eM (fun _ => ⟨by rw [bv_up_n _ _ _ (by omega)], by rw [bv_up_n _ _ _ (by omega)], rfl⟩) (fun h1 h2 => bv_up_n _ _ _ (bv_mrk (k := 44) h1 h2 (by decide) (by decide) hn)) (fun _ => rfl))
theorem bv_s45 (G : bv_G) (S M : bv_X) (z : bv_Z) (i : Nat) (v : Int32) : (bv_w G S M z).set 45 (bv_a G 45, .inl (bv_t G 0, 16, .inl (upd (M 2) i v))) = bv_w G S (bv_up M 2 i v) z := bv_w_set (by omega) rfl (fun t ht hn => bv_eM (fun _ => ⟨by rw [bv_up_n _ _ _ (by omega)], by rw [bv_up_n _ _ _ (by omega)], rfl⟩) (fun h1 h2 => bv_up_n _ _ _ (bv_mrk (k := 45) h1 h2 (by decide) (by decide) hn)) (fun _ => rfl))
theorem bv_s46 (G : bv_G) (S M : bv_X) (z : bv_Z) (i : Nat) (v : Int32) : (bv_w G S M z).set 46 (bv_a G 46, .inl (bv_t G 0, 16, .inl (upd (M 3) i v))) = bv_w G S (bv_up M 3 i v) z := bv_w_set (by omega) rfl (fun t ht hn => bv_eM (fun _ => ⟨by rw [bv_up_n _ _ _ (by omega)], by rw [bv_up_n _ _ _ (by omega)], rfl⟩) (fun h1 h2 => bv_up_n _ _ _ (bv_mrk (k := 46) h1 h2 (by decide) (by decide) hn)) (fun _ => rfl))
theorem bv_s47 (G : bv_G) (S M : bv_X) (z : bv_Z) (i : Nat) (v : Int32) : (bv_w G S M z).set 47 (bv_a G 47, .inl (bv_t G 0, 8, .inl (upd (M 9) i v))) = bv_w G S (bv_up M 9 i v) z := bv_w_set (by omega) rfl (fun t ht hn => bv_eM (fun _ => ⟨by rw [bv_up_n _ _ _ (by omega)], by rw [bv_up_n _ _ _ (by omega)], rfl⟩) (fun h1 h2 => bv_up_n _ _ _ (bv_mrk (k := 47) h1 h2 (by decide) (by decide) hn)) (fun _ => rfl))
theorem bv_s48 (G : bv_G) (S M : bv_X) (z : bv_Z) (i : Nat) (v : Int32) : (bv_w G S M z).set 48 (bv_a G 48, .inl (bv_t G 0, 8, .inl (upd (M 10) i v))) = bv_w G S (bv_up M 10 i v) z := bv_w_set (by omega) rfl (fun t ht hn => bv_eM (fun _ => ⟨by rw [bv_up_n _ _ _ (by omega)], by rw [bv_up_n _ _ _ (by omega)], rfl⟩) (fun h1 h2 => bv_up_n _ _ _ (bv_mrk (k := 48) h1 h2 (by decide) (by decide) hn)) (fun _ => rfl))
theorem bv_s49 (G : bv_G) (S M : bv_X) (z : bv_Z) (i : Nat) (v : Int32) : (bv_w G S M z).set 49 (bv_a G 49, .inl (bv_t G 0, 8, .inl (upd (M 11) i v))) = bv_w G S (bv_up M 11 i v) z := bv_w_set (by omega) rfl (fun t ht hn => bv_eM (fun _ => ⟨by rw [bv_up_n _ _ _ (by omega)], by rw [bv_up_n _ _ _ (by omega)], rfl⟩) (fun h1 h2 => bv_up_n _ _ _ (bv_mrk (k := 49) h1 h2 (by decide) (by decide) hn)) (fun _ => rfl))
theorem bv_s50 (G : bv_G) (S M : bv_X) (z : bv_Z) (i : Nat) (v : Int32) : (bv_w G S M z).set 50 (bv_a G 50, .inl (bv_t G 0, 8, .inl (upd (M 13) i v))) = bv_w G S (bv_up M 13 i v) z := bv_w_set (by omega) rfl (fun t ht hn => bv_eM (fun _ => ⟨by rw [bv_up_n _ _ _ (by omega)], by rw [bv_up_n _ _ _ (by omega)], rfl⟩) (fun h1 h2 => bv_up_n _ _ _ (bv_mrk (k := 50) h1 h2 (by decide) (by decide) hn)) (fun _ => rfl))
theorem bv_s51 (G : bv_G) (S M : bv_X) (z : bv_Z) (i : Nat) (v : Int32) : (bv_w G S M z).set 51 (bv_a G 51, .inl (bv_t G 1, 8, .inl (upd (M 14) i v))) = bv_w G S (bv_up M 14 i v) z := bv_w_set (by omega) rfl (fun t ht hn => bv_eM (fun _ => ⟨by rw [bv_up_n _ _ _ (by omega)], by rw [bv_up_n _ _ _ (by omega)], rfl⟩) (fun h1 h2 => bv_up_n _ _ _ (bv_mrk (k := 51) h1 h2 (by decide) (by decide) hn)) (fun _ => rfl))
theorem bv_s52 (G : bv_G) (S M : bv_X) (z : bv_Z) (i : Nat) (v : Int32) : (bv_w G S M z).set 52 (bv_a G 52, .inl (bv_t G 0, 8, .inl (upd (M 12) i v))) = bv_w G S (bv_up M 12 i v) z := bv_w_set (by omega) rfl (fun t ht hn => bv_eM (fun _ => ⟨by rw [bv_up_n _ _ _ (by omega)], by rw [bv_up_n _ _ _ (by omega)], rfl⟩) (fun h1 h2 => bv_up_n _ _ _ (bv_mrk (k := 52) h1 h2 (by decide) (by decide) hn)) (fun _ => rfl))
theorem bv_s53 (G : bv_G) (S M : bv_X) (z : bv_Z) (i : Nat) (v : Int32) : (bv_w G S M z).set 53 (bv_a G 53, .inl (bv_t G 0, 8, .inl (upd (M 15) i v))) = bv_w G S (bv_up M 15 i v) z := bv_w_set (by omega) rfl (fun t ht hn => bv_eM (fun _ => ⟨by rw [bv_up_n _ _ _ (by omega)], by rw [bv_up_n _ _ _ (by omega)], rfl⟩) (fun h1 h2 => bv_up_n _ _ _ (bv_mrk (k := 53) h1 h2 (by decide) (by decide) hn)) (fun _ => rfl))
theorem bv_s54 (G : bv_G) (S M : bv_X) (z : bv_Z) (i : Nat) (v : Int32) : (bv_w G S M z).set 54 (bv_a G 54, .inl (bv_t G 0, 40, .inl (upd (M 16) i v))) = bv_w G S (bv_up M 16 i v) z := bv_w_set (by omega) rfl (fun t ht hn => bv_eM (fun _ => ⟨by rw [bv_up_n _ _ _ (by omega)], by rw [bv_up_n _ _ _ (by omega)], rfl⟩) (fun h1 h2 => bv_up_n _ _ _ (bv_mrk (k := 54) h1 h2 (by decide) (by decide) hn)) (fun _ => rfl))
theorem bv_s55 (G : bv_G) (S M : bv_X) (z : bv_Z) (i : Nat) (v : Int32) : (bv_w G S M z).set 55 (bv_a G 55, .inl (bv_t G 0, 40, .inl (upd (M 17) i v))) = bv_w G S (bv_up M 17 i v) z := bv_w_set (by omega) rfl (fun t ht hn => bv_eM (fun _ => ⟨by rw [bv_up_n _ _ _ (by omega)], by rw [bv_up_n _ _ _ (by omega)], rfl⟩) (fun h1 h2 => bv_up_n _ _ _ (bv_mrk (k := 55) h1 h2 (by decide) (by decide) hn)) (fun _ => rfl))
theorem bv_s56 (G : bv_G) (S M : bv_X) (z : bv_Z) (i : Nat) (v : Int32) : (bv_w G S M z).set 56 (bv_a G 56, .inl (bv_t G 0, 40, .inl (upd (M 18) i v))) = bv_w G S (bv_up M 18 i v) z := bv_w_set (by omega) rfl (fun t ht hn => bv_eM (fun _ => ⟨by rw [bv_up_n _ _ _ (by omega)], by rw [bv_up_n _ _ _ (by omega)], rfl⟩) (fun h1 h2 => bv_up_n _ _ _ (bv_mrk (k := 56) h1 h2 (by decide) (by decide) hn)) (fun _ => rfl))
theorem bv_s57 (G : bv_G) (S M : bv_X) (z : bv_Z) (i : Nat) (v : Int32) : (bv_w G S M z).set 57 (bv_a G 57, .inl (bv_t G 0, 30, .inl (upd (M 4) i v))) = bv_w G S (bv_up M 4 i v) z := bv_w_set (by omega) rfl (fun t ht hn => bv_eM (fun _ => ⟨by rw [bv_up_n _ _ _ (by omega)], by rw [bv_up_n _ _ _ (by omega)], rfl⟩) (fun h1 h2 => bv_up_n _ _ _ (bv_mrk (k := 57) h1 h2 (by decide) (by decide) hn)) (fun _ => rfl))
theorem bv_s58 (G : bv_G) (S M : bv_X) (z : bv_Z) (i : Nat) (v : Int32) : (bv_w G S M z).set 58 (bv_a G 58, .inl (bv_t G 0, 30, .inl (upd (M 5) i v))) = bv_w G S (bv_up M 5 i v) z := bv_w_set (by omega) rfl (fun t ht hn => bv_eM (fun _ => ⟨by rw [bv_up_n _ _ _ (by omega)], by rw [bv_up_n _ _ _ (by omega)], rfl⟩) (fun h1 h2 => bv_up_n _ _ _ (bv_mrk (k := 58) h1 h2 (by decide) (by decide) hn)) (fun _ => rfl))
theorem bv_s59 (G : bv_G) (S M : bv_X) (z : bv_Z) (i : Nat) (v : Int32) : (bv_w G S M z).set 59 (bv_a G 59, .inl (bv_t G 0, 30, .inl (upd (M 6) i v))) = bv_w G S (bv_up M 6 i v) z := bv_w_set (by omega) rfl (fun t ht hn => bv_eM (fun _ => ⟨by rw [bv_up_n _ _ _ (by omega)], by rw [bv_up_n _ _ _ (by omega)], rfl⟩) (fun h1 h2 => bv_up_n _ _ _ (bv_mrk (k := 59) h1 h2 (by decide) (by decide) hn)) (fun _ => rfl))
theorem bv_s60 (G : bv_G) (S M : bv_X) (z : bv_Z) (i : Nat) (v : Int32) : (bv_w G S M z).set 60 (bv_a G 60, .inl (bv_t G 0, 30, .inl (upd (M 7) i v))) = bv_w G S (bv_up M 7 i v) z := bv_w_set (by omega) rfl (fun t ht hn => bv_eM (fun _ => ⟨by rw [bv_up_n _ _ _ (by omega)], by rw [bv_up_n _ _ _ (by omega)], rfl⟩) (fun h1 h2 => bv_up_n _ _ _ (bv_mrk (k := 60) h1 h2 (by decide) (by decide) hn)) (fun _ => rfl))
theorem bv_s61 (G : bv_G) (S M : bv_X) (z : bv_Z) (i : Nat) (v : Int32) : (bv_w G S M z).set 61 (bv_a G 61, .inl (bv_t G 1, 30, .inl (upd (M 8) i v))) = bv_w G S (bv_up M 8 i v) z := bv_w_set (by omega) rfl (fun t ht hn => bv_eM (fun _ => ⟨by rw [bv_up_n _ _ _ (by omega)], by rw [bv_up_n _ _ _ (by omega)], rfl⟩) (fun h1 h2 => bv_up_n _ _ _ (bv_mrk (k := 61) h1 h2 (by decide) (by decide) hn)) (fun _ => rfl))
theorem bv_sout (G : bv_G) (S M : bv_X) (z : bv_Z) (v : Int64) : (bv_w G S M z).set 62 (bv_a G 62, .inl (bv_t G 3, 1, .inr (.inl (fun _ => v)))) = bv_w G S M (z.1, v) := bv_w_set (by omega) rfl (fun t ht hn => bv_eM (fun _ => ⟨rfl, rfl, rfl⟩) (fun _ _ => rfl) (fun h => absurd (show t = 62 by omega) hn))
end
section
/-! ===== WHAT A METHOD FINDS, AND ITS ROWS ===== -/
def bv_ty (G : bv_G) : List (ClassId × FieldType) := [(bv_t G 0, .int), (bv_t G 1, .boolean), (bv_t G 2, .object "BoxVault$Box"), (bv_t G 3, .long)]
def bv_H (G : bv_G) (S M : bv_X) (z : bv_Z) (H : Heap) : Prop := va_P (bv_D G) vwCl (bv_w G S M z) H
def bv_ap (G : bv_G) : Prop := (∀ i j, i < 63 → j < 63 → bv_a G i = bv_a G j → i = j) ∧ ∀ i, i < 63 → bv_n G ≤ bv_a G i
def bv_K (G : bv_G) (U : State) : Prop := bv_ap G ∧ va_K (bv_D G) vwCl (bv_ty G) U
theorem bv_dd {G : bv_G} (h : bv_ap G) (S M : bv_X) (z : bv_Z) : va_D (bv_A G) (bv_w G S M z) := by
  have key : ∀ (k : Nat) (q : Nat × va_E), (bv_w G S M z)[k]? = some q → k < 63 ∧ q.1 = bv_a G k := by
    intro k q hq
    have hk : k < 63 := by
      have := (List.getElem?_eq_some_iff.mp hq).1
      rwa [bv_w_len] at this
    rw [bv_get hk] at hq
    cases hq
    exact ⟨hk, rfl⟩
  refine ⟨fun i j p q hi hj hpq => ?_, fun k q hq => ?_⟩
  · obtain ⟨a1, a2⟩ := key i p hi
    obtain ⟨b1, b2⟩ := key j q hj
    exact h.1 i j a1 b1 (by rw [← a2, ← b2]; exact hpq)
  · obtain ⟨a1, a2⟩ := key k q hq
    rw [a2]
    exact h.2 k a1
/-- words that the tables say, beside those that travel with a method's own list -/
def bv_nw : List Cond := [.methodLinkNest RX2 17 yX1_init "BoxVault", .methodLinkNest RX2 37 yX0_init "BoxVault", .fieldLinkNest RX2 125 "BoxVault$Box" "state" "I" "BoxVault", .fieldLinkNest RX2 136 "BoxVault$Box" "holder" "I" "BoxVault", .fieldLinkNest RX2 74 "BoxVault$Box" "paidUpTo" "I" "BoxVault", .fieldLinkNest RX2 122 "BoxVault$Box" "unpaidDays" "I" "BoxVault", .fieldLinkNest RX2 87 "BoxVault$Box" "entries" "I" "BoxVault", .fieldLinkNest RX2 193 "BoxVault$Box" "willSought" "Z" "BoxVault", .fieldLinkNest RX2 143 "BoxVault$Box" "proxyCount" "I" "BoxVault", .methodLinkNest RX2 58 yX0_isFree "BoxVault", .methodLinkNest RX2 70 yX0_startRent "BoxVault", .methodLinkNest RX2 160 yX0_isRented "BoxVault", .methodLinkNest RX2 111 yX1_bindingOn "BoxVault", .methodLinkNest RX2 114 yX1_kindOf "BoxVault", .methodLinkNest RX2 210 yX1_personOf "BoxVault", .methodLinkNest RX2 99 yX0_noticesOn "BoxVault", .methodLinkNest RX2 216 yX0_hasProxyOn "BoxVault", .methodLinkNest RX2 219 yX0_empty "BoxVault", .methodLinkNest RX2 222 yX1_endAllOn "BoxVault", .methodLinkNest RX2 119 yX0_breakOpen "BoxVault", .methodLinkNest RX2 148 yX0_addProxy "BoxVault", .methodLinkNest RX2 157 yX0_endProxies "BoxVault", .methodLinkNest RX2 165 yX1_isFull "BoxVault", .methodLinkNest RX2 170 yX1_add "BoxVault", .methodLinkNest RX2 174 yX1_has "BoxVault", .methodLinkNest RX2 182 yX1_isInForce "BoxVault", .methodLinkNest RX2 187 yX1_isBinding "BoxVault", .methodLinkNest RX2 190 yX1_end "BoxVault",
  .castable "java/lang/IllegalArgumentException" "java/lang/IllegalArgumentException", .castable "java/lang/IllegalStateException" "java/lang/IllegalStateException", .castable "java/lang/IndexOutOfBoundsException" "java/lang/IndexOutOfBoundsException", .declares ⟨"java/lang/RuntimeException", "<init>", "(Ljava/lang/String;)V"⟩, .declares ⟨"java/lang/Exception", "<init>", "(Ljava/lang/String;)V"⟩, .declares ⟨"java/lang/Throwable", "<init>", "(Ljava/lang/String;)V"⟩]
def bv_wk : Cond → Bool
  | .fieldLinkNest .. | .methodLinkNest .. | .castable .. | .declares .. => true
  | _ => false
theorem bv_wk_tab {w : Cond} (h : bv_wk w = true) : w.onTables = true := by
  cases w <;> first | rfl | (simp [bv_wk] at h)
theorem bv_wk_warm {w : Cond} (h : bv_wk w = true) {s U : State} (hW : s.WarmedH U.vm) (hZ : va_Nw w s) : va_Nw w U := by
  cases w <;> first | exact va_Nw.warmF hW hZ | exact va_Nw.warmM hW hZ | exact va_Nw.warmC hW hZ | exact va_Nw.warmD hW hZ | (simp [bv_wk] at h)
theorem bv_nw_wk : ∀ w ∈ bv_nw, bv_wk w = true := by decide +kernel
def bv_st : List (Nat × String) := [(197, "an argument is out of range"), (45, "it would be later than the last day"), (62, "the box is not free"), (68, "the person is dead"), (199, "the box is not rented"), (85, "the person may not give the box back"), (96, "the witnesses are the same"), (103, "the box has too few notices"), (109, "a witness is dead or the holder"), (117, "an order forbids it"), (128, "the box is not drilled"), (134, "the person may not fetch it"), (139, "the holder is dead"), (141, "the person is the holder"), (146, "there are too many proxies"), (151, "nobody is their own heir"), (163, "the box is free"), (168, "there are too many orders"), (179, "there was no such order"), (185, "the order does not hold any more")]
def bv_nc : List (String × String) := [("java/lang/IllegalStateException", "java/lang/IllegalArgumentException"), ("java/lang/IllegalStateException", "java/lang/IndexOutOfBoundsException")]
def bv_En (G : bv_G) (U : State) (H : Heap) : Prop := (∀ w ∈ bv_nw, va_Nw w U) ∧ (∀ q ∈ bv_st, ∃ sa : Nat, vk_R RX2 q.1 q.2 sa U) ∧ (∀ q ∈ bv_nc, va_Nc q.1 q.2 U) ∧ va_AO "BoxVault$Box" U ∧ vx_Zq Bundle.tN "UNASSIGNED_STACK" Bundle.steD (bv_A G) U H ∧ vx_Zq Bundle.tN "SUPPRESSED_SENTINEL" Bundle.listD (bv_A G) U H
def bv_U (G : bv_G) (S M : bv_X) (z : bv_Z) (U : State) : Prop := bv_n G ≤ U.heap.size ∧ bv_H G S M z U.heap ∧ bv_K G U ∧ bv_En G U U.heap
theorem bv_blind {G : bv_G} {S M : bv_X} {z : bv_Z} {av : List Value} : FrameBlind (va_Pc av (bv_U G S M z)) := by
  intro a U g mk h
  obtain ⟨h0, h1, h2, h3, h4, h5, h6, h7, h8, h9⟩ := h
  exact ⟨h0, h1, h2, ⟨h3.1, va_K.moved (u := U) (U := U.calling g mk a) (Vm.Alike.refl U.vm) h3.2⟩, fun w hw => va_Nw.same (u := U) (U := U.calling g mk a) (bv_wk_tab (bv_nw_wk w hw)) rfl (h4 w hw), fun q hq => (h5 q hq).imp (fun sa h => vk_R.same (u := U) (U := U.calling g mk a) rfl h), fun q hq => va_Nc.moved (u := U) (U := U.calling g mk a) (Vm.Alike.refl U.vm) (h6 q hq), va_AO.moved (u := U) (U := U.calling g mk a) (Vm.Alike.refl U.vm) h7, vx_Zq.moved (u := U) (U := U.calling g mk a) (Vm.Alike.refl U.vm) h8, vx_Zq.moved (u := U) (U := U.calling g mk a) (Vm.Alike.refl U.vm) h9⟩
theorem bv_En_warm {G : bv_G} {s U : State} {H : Heap} {locs : List Loc} (hE : bv_En G s s.heap) (hS : va_S (bv_A G) s.heap H locs) (hU : U.heap = H) (hW : s.WarmedH U.vm) : bv_En G U U.heap := by
  obtain ⟨h4, h5, h6, h7, h8, h9⟩ := hE
  refine ⟨fun w hw => bv_wk_warm (bv_nw_wk w hw) hW (h4 w hw), fun q hq => (h5 q hq).imp (fun sa h => vk_R.warm hW h), fun q hq => va_Nc.moved hW.alike (h6 q hq), va_AO.moved hW.alike h7, ?_, ?_⟩
  · exact vx_Zq.kept (vx_Zq.moved hW.alike h8) (fun a h1 h2 => by rw [hU]; exact hS.2.1 a h1 h2)
  · exact vx_Zq.kept (vx_Zq.moved hW.alike h9) (fun a h1 h2 => by rw [hU]; exact hS.2.1 a h1 h2)
theorem bv_pre {G : bv_G} {S M : bv_X} {z : bv_Z} {s U : State} {H : Heap} {locs : List Loc} (hz : bv_n G ≤ s.heap.size) (hP : bv_H G S M z H) (hK : bv_K G s) (hE : bv_En G s s.heap) (hS : va_S (bv_A G) s.heap H locs) (hU : U.heap = H) (hW : s.WarmedH U.vm) : bv_U G S M z U :=
  ⟨by rw [hU]; exact Nat.le_trans hz hS.1, by rw [hU]; exact hP, ⟨hK.1, va_K.moved hW.alike hK.2⟩, bv_En_warm hE hS hU hW⟩
/-- contracts: the answer f (or none), the world behind it -/
def bv_M (l : Launch) (y : MethodName) (ws : List Cond) (rm : Room) (av : List Value) (G : bv_G) (S M : bv_X) (z : bv_Z) (f : Int32) (S' M' : bv_X) (z' : bv_Z) : Prop := Met l y ws rm (va_Pc av (bv_U G S M z)) (va_Qi (fun (r : Int32) (_ : Unit) => r = f) (fun _ t => bv_H G S' M' z' t.heap) (bv_A G)) rm.cells rm.slots (bv_A G)
def bv_Mv (l : Launch) (y : MethodName) (ws : List Cond) (rm : Room) (av : List Value) (G : bv_G) (S M : bv_X) (z : bv_Z) (S' M' : bv_X) (z' : bv_Z) : Prop := Met l y ws rm (va_Pc av (bv_U G S M z)) (va_Qv (fun (_ : Unit) => True) (fun _ t => bv_H G S' M' z' t.heap) (bv_A G)) rm.cells rm.slots (bv_A G)
/-- what is thrown, by the law's number -/
def bv_EX (E : String) (k : Int32) : Prop := (E = "java/lang/IllegalArgumentException" ∧ k = 1) ∨ (E = "java/lang/IllegalStateException" ∧ k = 2) ∨ (E = "java/lang/IndexOutOfBoundsException" ∧ k = 1)
abbrev bv_XC (G : bv_G) (S M : bv_X) (z : bv_Z) (k : Int32) (Ex : String) : String → State → State → Prop := vx_X (fun (_ : Unit) => True) (fun E _ t => ((E = Ex ∧ k = 1) ∨ (E = "java/lang/IllegalStateException" ∧ k = 2)) ∧ bv_H G S M z t.heap) (bv_A G)
/-- contracts of methods that throw: k is 0 where it returns -/
def bv_Mx (l : Launch) (y : MethodName) (ws : List Cond) (rm : Room) (av : List Value) (G : bv_G) (S M : bv_X) (z : bv_Z) (k : Int32) (Ex : String) (f : Int32) (S' M' : bv_X) (z' : bv_Z) : Prop := vx_Met l y ws rm (va_Pc av (bv_U G S M z)) (va_Qi (fun (r : Int32) (_ : Unit) => k = 0 ∧ r = f) (fun _ t => bv_H G S' M' z' t.heap) (bv_A G)) (bv_XC G S M z k Ex) rm.cells rm.slots (bv_A G)
def bv_Mxv (l : Launch) (y : MethodName) (ws : List Cond) (rm : Room) (av : List Value) (G : bv_G) (S M : bv_X) (z : bv_Z) (k : Int32) (Ex : String) (S' M' : bv_X) (z' : bv_Z) : Prop := vx_Met l y ws rm (va_Pc av (bv_U G S M z)) (va_Qv (fun (_ : Unit) => k = 0) (fun _ t => bv_H G S' M' z' t.heap) (bv_A G)) (bv_XC G S M z k Ex) rm.cells rm.slots (bv_A G)
def bv_Mxr (l : Launch) (y : MethodName) (ws : List Cond) (rm : Room) (av : List Value) (G : bv_G) (S M : bv_X) (z : bv_Z) (k : Int32) (Ex : String) (f : Nat) : Prop := vx_Met l y ws rm (va_Pc av (bv_U G S M z)) (va_Qr (fun (_ : Unit) => k = 0) (fun _ q t => q = f ∧ bv_H G S M z t.heap) (bv_A G)) (bv_XC G S M z k Ex) rm.cells rm.slots (bv_A G)
/-- numbers for truths -/
def bI (c : Prop) [Decidable c] : Int32 := if c then 1 else 0
theorem bI_t {c : Prop} [Decidable c] (h : c) : bI c = 1 := if_pos h
theorem bI_f {c : Prop} [Decidable c] (h : ¬ c) : bI c = 0 := if_neg h
theorem bI_1 {c : Prop} [Decidable c] (h : ¬ bI c = 0) : c := by
  by_cases q : c
  · exact q
  · exact absurd (bI_f q) h
theorem bI_0 {c : Prop} [Decidable c] (h : bI c = 0) : ¬ c := by
  intro q
  rw [bI_t q] at h
  exact absurd h (by decide)
theorem bI_nz {c : Prop} [Decidable c] : narrow .boolean (.int (bI c)) = .int (bI c) := by
  unfold bI
  split <;> rfl
section BVR
variable {p : Program} {l : Launch} {e : Env} {R : Room} {s : State} {m : MethodId} {args : Array Value} {below : List Frame} {meth : Method} {c : Code} {H : Heap} {locs : List Loc} {cells slots : Nat} {Q : State → Prop}
variable {cc : ByteArray} {pc : Nat} {ls : Array Slot} {rest : List Value} {G : bv_G} {S M S' M' : bv_X} {z z' : bv_Z}
theorem bv_iald (hx : p.tables.exec = Jvm.exec) (hb : c.code = cc) (hK : bv_K G s) (hP : bv_H G S M z H) (k : Nat) {n : Nat} {f : Nat → Int32} (hc : (bv_w G S M z)[k]? = some (bv_a G k, .inl (bv_t G 0, n, .inl f))) {i : Int32} (q : Nat) (hi : i = nI q) (hq : q < n) (hn : n < 2 ^ 31) (hdg : decode cc pc = .ok (.iaload, 1)) (kk : W p l e R s m args below meth c H locs cells slots Q (F0 m (pc + 1) ls (.int (f q) :: rest))) : W p l e R s m args below meth c H locs cells slots Q (F0 m pc ls (.int i :: .ref (bv_a G k) :: rest)) := by
  subst hi
  refine va_iald hx hb hK.2 hP k 0 hc rfl (vp_in_nI hq hn) hdg ?_
  rw [nI_clamp (Nat.lt_trans hq hn)]
  exact kk
theorem bv_zald (hx : p.tables.exec = Jvm.exec) (hb : c.code = cc) (hK : bv_K G s) (hP : bv_H G S M z H) (k : Nat) {n : Nat} {f : Nat → Int32} (hc : (bv_w G S M z)[k]? = some (bv_a G k, .inl (bv_t G 1, n, .inl f))) {i : Int32} (q : Nat) (hi : i = nI q) (hq : q < n) (hn : n < 2 ^ 31) (hdg : decode cc pc = .ok (.baload, 1)) (kk : W p l e R s m args below meth c H locs cells slots Q (F0 m (pc + 1) ls (.int (f q) :: rest))) : W p l e R s m args below meth c H locs cells slots Q (F0 m pc ls (.int i :: .ref (bv_a G k) :: rest)) := by
  subst hi
  refine va_zald hx hb hK.2 hP k 1 hc rfl (vp_in_nI hq hn) hdg ?_
  rw [nI_clamp (Nat.lt_trans hq hn)]
  exact kk
theorem bv_aald (hx : p.tables.exec = Jvm.exec) (hb : c.code = cc) (hK : bv_K G s) (hP : bv_H G S M z H) {i : Int32} (q : Nat) (hi : i = nI q) (hq : q < 8) (hdg : decode cc pc = .ok (.aaload, 1)) (kk : W p l e R s m args below meth c H locs cells slots Q (F0 m (pc + 1) ls (.ref (bv_a G (11 + q)) :: rest))) : W p l e R s m args below meth c H locs cells slots Q (F0 m pc ls (.int i :: .ref (bv_a G 1) :: rest)) := by
  subst hi
  refine va_aldq hx hb hK.2 hP 1 2 (bv_c1 G S M z) rfl (vp_in_nI hq (by decide)) hdg ?_
  rw [nI_clamp (Nat.lt_trans hq (by decide))]
  exact kk
theorem bv_iast (hx : p.tables.exec = Jvm.exec) (hb : c.code = cc) (hK : bv_K G s) (hP : bv_H G S M z H) (hS : va_S (bv_A G) s.heap H locs) (k : Nat) {n : Nat} {f : Nat → Int32} (hc : (bv_w G S M z)[k]? = some (bv_a G k, .inl (bv_t G 0, n, .inl f))) {i x : Int32} (q : Nat) (hi : i = nI q) (hq : q < n) (hn : n < 2 ^ 31) (hset : (bv_w G S M z).set k (bv_a G k, .inl (bv_t G 0, n, .inl (upd f q x))) = bv_w G S' M' z') (hdg : decode cc pc = .ok (.iastore, 1)) (kk : ∀ (H1 : Heap) (locs1 : List Loc), bv_H G S' M' z' H1 → va_S (bv_A G) s.heap H1 locs1 → W p l e R s m args below meth c H1 locs1 cells slots Q (F0 m (pc + 1) ls rest)) : W p l e R s m args below meth c H locs cells slots Q (F0 m pc ls (.int x :: .int i :: .ref (bv_a G k) :: rest)) := by
  subst hi
  refine va_iast hx hb hK.2 hP (bv_dd hK.1 S M z) hS k 0 hc rfl (vp_in_nI hq hn) hdg (fun H1 locs1 hP1 _ hS1 => kk H1 locs1 ?_ hS1)
  rw [nI_clamp (Nat.lt_trans hq hn), hset] at hP1
  exact hP1
theorem bv_zast (hx : p.tables.exec = Jvm.exec) (hb : c.code = cc) (hK : bv_K G s) (hP : bv_H G S M z H) (hS : va_S (bv_A G) s.heap H locs) (k : Nat) {n : Nat} {f : Nat → Int32} (hc : (bv_w G S M z)[k]? = some (bv_a G k, .inl (bv_t G 1, n, .inl f))) {i x : Int32} (q : Nat) (hi : i = nI q) (hq : q < n) (hn : n < 2 ^ 31) (hv : vp_nar .boolean x = x) (hset : (bv_w G S M z).set k (bv_a G k, .inl (bv_t G 1, n, .inl (upd f q x))) = bv_w G S' M' z') (hdg : decode cc pc = .ok (.bastore, 1)) (kk : ∀ (H1 : Heap) (locs1 : List Loc), bv_H G S' M' z' H1 → va_S (bv_A G) s.heap H1 locs1 → W p l e R s m args below meth c H1 locs1 cells slots Q (F0 m (pc + 1) ls rest)) : W p l e R s m args below meth c H locs cells slots Q (F0 m pc ls (.int x :: .int i :: .ref (bv_a G k) :: rest)) := by
  subst hi
  refine va_zast hx hb hK.2 hP (bv_dd hK.1 S M z) hS k 1 hc rfl (vp_in_nI hq hn) hdg (fun H1 locs1 hP1 _ hS1 => kk H1 locs1 ?_ hS1)
  rw [nI_clamp (Nat.lt_trans hq hn), hv, hset] at hP1
  exact hP1
/-- a field of a thing of the world -/
theorem bv_get_f (hx : p.tables.exec = Jvm.exec) (hb : c.code = cc) {own ref C : String} {T : u_T} {N ci index : Nat} {Ts : List Cond} (hts : ∀ w ∈ Ts, w.before args s = true) (hin : ∀ w ∈ u_ws C T N, w ∈ Ts) (hown : s.vm.findClass own = some m.cls) (hK : bv_K G s) (hP : bv_H G S M z H) {k0 : Nat} {fs : List Value} (he : (bv_w G S M z)[k0]? = some (bv_a G k0, .inr (ci, fs))) (hc : vwCl[ci]? = some (C, T, N)) (k : Nat) (hk : k < N) (hlink : (Cond.fieldLink own index ref (T k).2.1 (T k).2.2.1).before args s = true) (hsame : ref = (T k).1) {v : Value} (hv : fs[k]? = some v) (hdg : decode cc pc = .ok (.getfield index, 3)) (kk : W p l e R s m args below meth c H locs cells slots Q (F0 m (pc + 3) ls (v :: rest))) : W p l e R s m args below meth c H locs cells slots Q (F0 m pc ls (.ref (bv_a G k0) :: rest)) :=
  va_get hx hb hts hin hown hK.2 hP k0 he hc k hk hlink (fun x h => by rw [hsame]; exact h) hv hdg kk
theorem bv_get_n (hx : p.tables.exec = Jvm.exec) (hb : c.code = cc) {own ref C host : String} {T : u_T} {N ci index : Nat} {Ts : List Cond} (hts : ∀ w ∈ Ts, w.before args s = true) (hin : ∀ w ∈ u_ws C T N, w ∈ Ts) (hown : s.vm.findClass own = some m.cls) (hK : bv_K G s) (hP : bv_H G S M z H) {k0 : Nat} {fs : List Value} (he : (bv_w G S M z)[k0]? = some (bv_a G k0, .inr (ci, fs))) (hc : vwCl[ci]? = some (C, T, N)) (k : Nat) (hk : k < N) (hE : bv_En G s s.heap) (hnw : Cond.fieldLinkNest own index ref (T k).2.1 (T k).2.2.1 host ∈ bv_nw) (hsame : ref = (T k).1) {v : Value} (hv : fs[k]? = some v) (hdg : decode cc pc = .ok (.getfield index, 3)) (kk : W p l e R s m args below meth c H locs cells slots Q (F0 m (pc + 3) ls (v :: rest))) : W p l e R s m args below meth c H locs cells slots Q (F0 m pc ls (.ref (bv_a G k0) :: rest)) :=
  va_getN hx hb hts hin hown hK.2 hP k0 he hc k hk (va_Nw.use rfl (hE.1 _ hnw)) (fun x h => by rw [hsame]; exact h) hv hdg kk
theorem bv_put_f (hx : p.tables.exec = Jvm.exec) (hb : c.code = cc) {own ref C : String} {T : u_T} {N ci index : Nat} {Ts : List Cond} (hts : ∀ w ∈ Ts, w.before args s = true) (hin : ∀ w ∈ u_ws C T N, w ∈ Ts) (ty0 : Nat → FieldType) (hty : ∀ k, k < N → parseFieldDescriptor (T k).2.2.1 = some (ty0 k)) (hnm : ∀ a, a < N → ∀ b, b < N → a ≠ b → (T a).2.1 ≠ (T b).2.1) (hown : s.vm.findClass own = some m.cls) (hK : bv_K G s) (hP : bv_H G S M z H) (hS : va_S (bv_A G) s.heap H locs) {k0 : Nat} {fs : List Value} (he : (bv_w G S M z)[k0]? = some (bv_a G k0, .inr (ci, fs))) (hc : vwCl[ci]? = some (C, T, N)) (k : Nat) (hk : k < N) (hlink : (Cond.fieldLink own index ref (T k).2.1 (T k).2.2.1).before args s = true) (hsame : ref = (T k).1) (hfin : (T k).2.2.2 = false) {ty : FieldType} {v : Value} (hd : parseFieldDescriptor (T k).2.2.1 = some ty) (hn : narrow ty v = v) (hfit : fits ty v = true) (hl : k < fs.length) {fs' : List Value} (hfs : fs.set k v = fs') (hset : (bv_w G S M z).set k0 (bv_a G k0, .inr (ci, fs')) = bv_w G S' M' z') (hdg : decode cc pc = .ok (.putfield index, 3)) (kk : ∀ (H1 : Heap) (locs1 : List Loc), bv_H G S' M' z' H1 → va_S (bv_A G) s.heap H1 locs1 → W p l e R s m args below meth c H1 locs1 cells slots Q (F0 m (pc + 3) ls rest)) : W p l e R s m args below meth c H locs cells slots Q (F0 m pc ls (v :: .ref (bv_a G k0) :: rest)) :=
  va_put hx hb hts hin ty0 hty hnm hown hK.2 hP (bv_dd hK.1 S M z) hS k0 he hc k hk hlink (fun x h => by rw [hsame]; exact h) hfin hd hn hfit hl hdg (fun H1 locs1 hP1 _ hS1 => kk H1 locs1 (by rw [hfs, hset] at hP1; exact hP1) hS1)
theorem bv_put_n (hx : p.tables.exec = Jvm.exec) (hb : c.code = cc) {own ref C host : String} {T : u_T} {N ci index : Nat} {Ts : List Cond} (hts : ∀ w ∈ Ts, w.before args s = true) (hin : ∀ w ∈ u_ws C T N, w ∈ Ts) (ty0 : Nat → FieldType) (hty : ∀ k, k < N → parseFieldDescriptor (T k).2.2.1 = some (ty0 k)) (hnm : ∀ a, a < N → ∀ b, b < N → a ≠ b → (T a).2.1 ≠ (T b).2.1) (hown : s.vm.findClass own = some m.cls) (hK : bv_K G s) (hP : bv_H G S M z H) (hS : va_S (bv_A G) s.heap H locs) {k0 : Nat} {fs : List Value} (he : (bv_w G S M z)[k0]? = some (bv_a G k0, .inr (ci, fs))) (hc : vwCl[ci]? = some (C, T, N)) (k : Nat) (hk : k < N) (hE : bv_En G s s.heap) (hnw : Cond.fieldLinkNest own index ref (T k).2.1 (T k).2.2.1 host ∈ bv_nw) (hsame : ref = (T k).1) (hfin : (T k).2.2.2 = false) {ty : FieldType} {v : Value} (hd : parseFieldDescriptor (T k).2.2.1 = some ty) (hn : narrow ty v = v) (hfit : fits ty v = true) (hl : k < fs.length) {fs' : List Value} (hfs : fs.set k v = fs') (hset : (bv_w G S M z).set k0 (bv_a G k0, .inr (ci, fs')) = bv_w G S' M' z') (hdg : decode cc pc = .ok (.putfield index, 3)) (kk : ∀ (H1 : Heap) (locs1 : List Loc), bv_H G S' M' z' H1 → va_S (bv_A G) s.heap H1 locs1 → W p l e R s m args below meth c H1 locs1 cells slots Q (F0 m (pc + 3) ls rest)) : W p l e R s m args below meth c H locs cells slots Q (F0 m pc ls (v :: .ref (bv_a G k0) :: rest)) :=
  va_putN hx hb hts hin ty0 hty hnm hown hK.2 hP (bv_dd hK.1 S M z) hS k0 he hc k hk (va_Nw.use rfl (hE.1 _ hnw)) (fun x h => by rw [hsame]; exact h) hfin hd hn hfit hl hdg (fun H1 locs1 hP1 _ hS1 => kk H1 locs1 (by rw [hfs, hset] at hP1; exact hP1) hS1)
/-- a truth on top, asked -/
theorem bv_ifeqB {q : Prop} [Decidable q] (hx : p.tables.exec = Jvm.exec) (hb : c.code = cc) {off : Int} {tgt : Nat} (hdg : decode cc pc = .ok (.ifCond .eq off, 3)) (ht : (pc : Int) + off = (tgt : Int)) (kt : ¬ q → W p l e R s m args below meth c H locs cells slots Q (F0 m tgt ls rest)) (kf : q → W p l e R s m args below meth c H locs cells slots Q (F0 m (pc + 3) ls rest)) : W p l e R s m args below meth c H locs cells slots Q (F0 m pc ls (.int (bI q) :: rest)) :=
  lv_if_eq hx hb hdg ht (fun h => kt (bI_0 h)) (fun h => kf (bI_1 h))
theorem bv_ifneB {q : Prop} [Decidable q] (hx : p.tables.exec = Jvm.exec) (hb : c.code = cc) {off : Int} {tgt : Nat} (hdg : decode cc pc = .ok (.ifCond .ne off, 3)) (ht : (pc : Int) + off = (tgt : Int)) (kt : q → W p l e R s m args below meth c H locs cells slots Q (F0 m tgt ls rest)) (kf : ¬ q → W p l e R s m args below meth c H locs cells slots Q (F0 m (pc + 3) ls rest)) : W p l e R s m args below meth c H locs cells slots Q (F0 m pc ls (.int (bI q) :: rest)) :=
  lv_if_ne hx hb hdg ht (fun h => kt (bI_1 h)) (fun h => kf (bI_0 h))
/-- ends -/
theorem bv_iret {f v : Int32} {mc ms : Nat} (hx : p.tables.exec = Jvm.exec) (hb : c.code = cc) (hr : meth.sig.returnType = some .int) (hlocks : meth.locks = false) (hS : va_S (bv_A G) s.heap H locs) (hc : cells ≤ mc) (hs : slots ≤ ms) (hdg : decode cc pc = .ok (.ireturn, 1)) (hv : v = f) (hP : bv_H G S M z H) : W p l e R s m args below meth c H locs cells slots (MQ below (va_Qi (fun (r : Int32) (_ : Unit) => r = f) (fun _ t => bv_H G S M z t.heap) (bv_A G)) args s mc ms (bv_A G)) (F0 m pc ls [.int v]) :=
  W.widen hc hs (W.iret hx hb hr (fun t ht _ => ⟨⟨v, (), rfl, hv, by dsimp only; rw [ht]; exact hP⟩, hS.F ht⟩) hS.2.2 hdg)
theorem bv_zret {f v : Int32} {mc ms : Nat} (hx : p.tables.exec = Jvm.exec) (hb : c.code = cc) (hr : meth.sig.returnType = some .boolean) (hlocks : meth.locks = false) (hn : narrow .boolean (.int v) = .int v) (hS : va_S (bv_A G) s.heap H locs) (hc : cells ≤ mc) (hs : slots ≤ ms) (hdg : decode cc pc = .ok (.ireturn, 1)) (hv : v = f) (hP : bv_H G S M z H) : W p l e R s m args below meth c H locs cells slots (MQ below (va_Qi (fun (r : Int32) (_ : Unit) => r = f) (fun _ t => bv_H G S M z t.heap) (bv_A G)) args s mc ms (bv_A G)) (F0 m pc ls [.int v]) :=
  W.widen hc hs (W.zret hx hb hr hn (fun t ht _ => ⟨⟨v, (), rfl, hv, by dsimp only; rw [ht]; exact hP⟩, hS.F ht⟩) hS.2.2 hdg)
theorem bv_vret {mc ms : Nat} (hx : p.tables.exec = Jvm.exec) (hb : c.code = cc) (hr : meth.sig.returnType = none) (hlocks : meth.locks = false) (hS : va_S (bv_A G) s.heap H locs) (hc : cells ≤ mc) (hs : slots ≤ ms) (hdg : decode cc pc = .ok (.return_, 1)) (hP : bv_H G S M z H) : W p l e R s m args below meth c H locs cells slots (MQ below (va_Qv (fun (_ : Unit) => True) (fun _ t => bv_H G S M z t.heap) (bv_A G)) args s mc ms (bv_A G)) (F0 m pc ls []) :=
  W.widen hc hs (W.vret hx hb hr (fun t ht _ => ⟨⟨(), rfl, trivial, by dsimp only; rw [ht]; exact hP⟩, hS.F ht⟩) hS.2.2 hdg)
theorem bv_xiret {XC : String → State → State → Prop} {f v k : Int32} {mc ms : Nat} (hx : p.tables.exec = Jvm.exec) (hb : c.code = cc) (hr : meth.sig.returnType = some .int) (hlocks : meth.locks = false) (hS : va_S (bv_A G) s.heap H locs) (hc : cells ≤ mc) (hs : slots ≤ ms) (hdg : decode cc pc = .ok (.ireturn, 1)) (hk : k = 0) (hv : v = f) (hP : bv_H G S M z H) : W p l e R s m args below meth c H locs cells slots (vx_MQ below (va_Qi (fun (r : Int32) (_ : Unit) => k = 0 ∧ r = f) (fun _ t => bv_H G S M z t.heap) (bv_A G)) XC args s mc ms (bv_A G)) (F0 m pc ls [.int v]) :=
  W.widen hc hs (vx_ret (W.iret hx hb hr (fun t ht _ => ⟨⟨v, (), rfl, ⟨hk, hv⟩, by dsimp only; rw [ht]; exact hP⟩, hS.F ht⟩) hS.2.2 hdg))
theorem bv_xzret {XC : String → State → State → Prop} {f v k : Int32} {mc ms : Nat} (hx : p.tables.exec = Jvm.exec) (hb : c.code = cc) (hr : meth.sig.returnType = some .boolean) (hlocks : meth.locks = false) (hn : narrow .boolean (.int v) = .int v) (hS : va_S (bv_A G) s.heap H locs) (hc : cells ≤ mc) (hs : slots ≤ ms) (hdg : decode cc pc = .ok (.ireturn, 1)) (hk : k = 0) (hv : v = f) (hP : bv_H G S M z H) : W p l e R s m args below meth c H locs cells slots (vx_MQ below (va_Qi (fun (r : Int32) (_ : Unit) => k = 0 ∧ r = f) (fun _ t => bv_H G S M z t.heap) (bv_A G)) XC args s mc ms (bv_A G)) (F0 m pc ls [.int v]) :=
  W.widen hc hs (vx_ret (W.zret hx hb hr hn (fun t ht _ => ⟨⟨v, (), rfl, ⟨hk, hv⟩, by dsimp only; rw [ht]; exact hP⟩, hS.F ht⟩) hS.2.2 hdg))
theorem bv_xvret {XC : String → State → State → Prop} {k : Int32} {mc ms : Nat} (hx : p.tables.exec = Jvm.exec) (hb : c.code = cc) (hr : meth.sig.returnType = none) (hlocks : meth.locks = false) (hS : va_S (bv_A G) s.heap H locs) (hc : cells ≤ mc) (hs : slots ≤ ms) (hdg : decode cc pc = .ok (.return_, 1)) (hk : k = 0) (hP : bv_H G S M z H) : W p l e R s m args below meth c H locs cells slots (vx_MQ below (va_Qv (fun (_ : Unit) => k = 0) (fun _ t => bv_H G S M z t.heap) (bv_A G)) XC args s mc ms (bv_A G)) (F0 m pc ls []) :=
  W.widen hc hs (vx_ret (W.vret hx hb hr (fun t ht _ => ⟨⟨(), rfl, hk, by dsimp only; rw [ht]; exact hP⟩, hS.F ht⟩) hS.2.2 hdg))
theorem bv_xaret {XC : String → State → State → Prop} {k : Int32} {f v : Nat} {cn : String} {mc ms : Nat} (hx : p.tables.exec = Jvm.exec) (hb : c.code = cc) (hr : meth.sig.returnType = some (.object cn)) (hlocks : meth.locks = false) (hS : va_S (bv_A G) s.heap H locs) (hc : cells ≤ mc) (hs : slots ≤ ms) (hdg : decode cc pc = .ok (.areturn, 1)) (hk : k = 0) (hv : v = f) (hP : bv_H G S M z H) : W p l e R s m args below meth c H locs cells slots (vx_MQ below (va_Qr (fun (_ : Unit) => k = 0) (fun _ q t => q = f ∧ bv_H G S M z t.heap) (bv_A G)) XC args s mc ms (bv_A G)) (F0 m pc ls [.ref v]) :=
  W.widen hc hs (vx_ret (W.aret hx hb hr (Or.inl ⟨cn, rfl⟩) (Or.inr ⟨v, rfl⟩) (fun t ht _ => ⟨⟨(), v, rfl, hk, hv, by rw [ht]; exact hP⟩, hS.F ht⟩) hS.2.2 hdg))
/-- throw new X(text) -/
theorem bv_throw {Qc : Array Value → State → Outcome → State → Prop} {cls text Ex : String} {k : Int32} {ik is ic mc ms : Nat} {Ts : List Cond} (hx : p.tables.exec = Jvm.exec) (hb : c.code = cc) (hl : l.stackTraces = false) (hts : ∀ w ∈ Ts, w.before args s = true) (hown : s.vm.findClass RX2 = some m.cls) (hcls : Bundle.fit cls = true) (hk : Cond.classLink RX2 ik cls ∈ Ts) (hini : Cond.initialized cls ∈ Ts) (hst : (is, text) ∈ bv_st) (hat : ∀ w ∈ (vx_atS RX2 ic cls ["java/lang/RuntimeException", "java/lang/Exception"]).filter goodWord, w ∈ Ts) (hat2 : ∀ w ∈ (vx_atS RX2 ic cls ["java/lang/RuntimeException", "java/lang/Exception"]).filter (fun w => !goodWord w), w ∈ bv_nw) (hgood : ∀ w ∈ Cond.classLink RX2 ik cls :: Cond.initialized cls :: vx_atS RX2 ic cls ["java/lang/RuntimeException", "java/lang/Exception"], vx_ot w = true) (hE : bv_En G s s.heap) (hS : va_S (bv_A G) s.heap H locs) (hsize : ls.size = c.maxLocals) (d0 : decode cc pc = .ok (.new ik, 3)) (d3 : decode cc (pc + 3) = .ok (.dup, 1)) (d4 : decode cc (pc + 4) = .ok (.ldc is, 2)) (d6 : decode cc (pc + 6) = .ok (.invokespecial ic, 3)) (d9 : decode cc (pc + 9) = .ok (.athrow, 1)) (hout : ∀ x ∈ c.exceptionTable.toList, False) (hRframes : 5 < R.frames) (hRlocals : (rest.map fun v => v.category).sum + 82 ≤ R.locals) (hRcells : cells + 1 ≤ R.cells) (hRslots : slots + 6 ≤ R.slots) (hlocks : meth.locks = false) (hc : cells + 1 ≤ mc) (hs : slots + 6 ≤ ms) (hP : bv_H G S M z H) (hX : (cls = Ex ∧ k = 1) ∨ (cls = "java/lang/IllegalStateException" ∧ k = 2)) : W p l e R s m args below meth c H locs cells slots (vx_MQ below Qc (bv_XC G S M z k Ex) args s mc ms (bv_A G)) (F0 m pc ls rest) := by
  obtain ⟨sa, hsa⟩ := hE.2.1 _ hst
  refine vx_throwS (names := ["java/lang/RuntimeException", "java/lang/Exception"]) (A := bv_A G) (text := text) (sa := sa) hx hb hl hown hcls (by decide) (hts _ hk) (hts _ hini) hsa (vx_hat (B := bv_nw) (fun w hw => hts w (hat w hw)) hat2 (fun w hw => va_Nw.use (bv_wk_tab (bv_nw_wk w hw)) (hE.1 w hw))) hgood hE.2.2.2.2.1 hE.2.2.2.2.2 hS hsize d0 d3 d4 d6 d9 (fun x h => (hout x h).elim) hRframes hRlocals hRcells hRslots hlocks (fun t hal hz hq => ⟨(), trivial, ⟨hX, fun k q hk => (hP k q hk).kept (hq q.1 (hP k q hk).lt)⟩, Nat.le_trans hS.1 hz, fun q h1 h2 => (hq q (Nat.lt_of_lt_of_le h1 hS.1)).trans (hS.2.1 q h1 h2)⟩) hS.2.2 hc hs
/-- calls: what is known before -/
theorem bv_preV {av : List Value} {C : String} (hz : bv_n G ≤ s.heap.size) (hP : bv_H G S M z H) (hK : bv_K G s) (hE : bv_En G s s.heap) (hS : va_S (bv_A G) s.heap H locs) {k0 ci : Nat} {fs : List Value} {r : vw_C} (he : (bv_w G S M z)[k0]? = some (bv_a G k0, .inr (ci, fs))) (hc : vwCl[ci]? = some r) (hC : r.1 = C) : PreV s H C (bv_a G k0) (va_Pc (.ref (bv_a G k0) :: av) (bv_U G S M z)) av := by
  subst hC
  exact ⟨bv_blind, va_recv hK.2 hP hc he, fun U hU hW => ⟨rfl, bv_pre hz hP hK hE hS hU hW⟩⟩
theorem bv_preS {av : List Value} (hz : bv_n G ≤ s.heap.size) (hP : bv_H G S M z H) (hK : bv_K G s) (hE : bv_En G s s.heap) (hS : va_S (bv_A G) s.heap H locs) : PreS s H (va_Pc av (bv_U G S M z)) av :=
  ⟨bv_blind, fun U hU hW => ⟨rfl, bv_pre hz hP hK hE hS hU hW⟩⟩
/-- .. and behind -/
theorem bv_ci {f : Int32} {mc ms : Nat} {st0 : List Value} {a : Array Value} (hr : va_Run p l e R s m args below meth c H locs cells slots mc ms (F0 m pc ls st0) rest (va_Qi (fun (r : Int32) (_ : Unit) => r = f) (fun _ t => bv_H G S' M' z' t.heap) (bv_A G) a) (bv_A G)) (hS : va_S (bv_A G) s.heap H locs) (kk : ∀ (H1 : Heap) (locs1 : List Loc), bv_H G S' M' z' H1 → va_S (bv_A G) s.heap H1 locs1 → W p l e R s m args below meth c H1 locs1 (cells + mc) (slots + ms) Q (F0 m (pc + 3) ls (.int f :: rest))) : W p l e R s m args below meth c H locs cells slots Q (F0 m pc ls st0) :=
  va_calli hr hS (fun _ _ h => h) (fun _ h => h) (fun r u t H1 locs1 ht _ hp hB _ _ hS1 => by subst hp; exact kk H1 locs1 (by rw [← ht]; exact hB) hS1)
theorem bv_cv {mc ms : Nat} {st0 : List Value} {a : Array Value} (hr : va_Run p l e R s m args below meth c H locs cells slots mc ms (F0 m pc ls st0) rest (va_Qv (fun (_ : Unit) => True) (fun _ t => bv_H G S' M' z' t.heap) (bv_A G) a) (bv_A G)) (hS : va_S (bv_A G) s.heap H locs) (kk : ∀ (H1 : Heap) (locs1 : List Loc), bv_H G S' M' z' H1 → va_S (bv_A G) s.heap H1 locs1 → W p l e R s m args below meth c H1 locs1 (cells + mc) (slots + ms) Q (F0 m (pc + 3) ls rest)) : W p l e R s m args below meth c H locs cells slots Q (F0 m pc ls st0) :=
  va_callv hr hS (fun _ _ h => h) (fun _ h => h) (fun u t H1 locs1 ht _ hp hB _ _ hS1 => kk H1 locs1 (by rw [← ht]; exact hB) hS1)
/-- what is thrown by a callee, handed on -/
def bv_kx (p : Program) (l : Launch) (e : Env) (R : Room) (s : State) (m : MethodId) (args : Array Value) (below : List Frame) (meth : Method) (c : Code) (cells slots : Nat) (Q : State → Prop) (G : bv_G) (S M : bv_X) (z : bv_Z) (k : Int32) (Ex : String) (pc : Nat) (ls : Array Slot) (rest : List Value) : Prop :=
  ∀ (E : String) (ce : Cell) (q9 : Addr) (H1 : Heap) (locs1 : List Loc), ((E = Ex ∧ k = 1) ∨ (E = "java/lang/IllegalStateException" ∧ k = 2)) → bv_H G S M z H1 → va_S (bv_A G) s.heap H1 locs1 → H1[q9]? = some ce → ce.vm = .none → s.vm.findClass E = some ce.cls → vx_W p l e R s m args below meth c H1 locs1 cells slots Q (F0 m pc ls rest) q9
theorem bv_cxi {f k : Int32} {Ex : String} {mc ms : Nat} {st0 : List Value} {a : Array Value} (hr : vx_Run p l e R s m args below meth c H locs cells slots mc ms (F0 m pc ls st0) rest (va_Qi (fun (r : Int32) (_ : Unit) => k = 0 ∧ r = f) (fun _ t => bv_H G S' M' z' t.heap) (bv_A G) a) (bv_XC G S M z k Ex) (bv_A G)) (hS : va_S (bv_A G) s.heap H locs) (kx : bv_kx p l e R s m args below meth c (cells + mc) (slots + ms) Q G S M z k Ex pc ls rest) (kk : ∀ (H1 : Heap) (locs1 : List Loc), k = 0 → bv_H G S' M' z' H1 → va_S (bv_A G) s.heap H1 locs1 → W p l e R s m args below meth c H1 locs1 (cells + mc) (slots + ms) Q (F0 m (pc + 3) ls (.int f :: rest))) : W p l e R s m args below meth c H locs cells slots Q (F0 m pc ls st0) :=
  vx_calli hr hS (fun _ _ h => h) (fun _ h => h) (fun _ _ h => h) (fun E ce q9 u t H1 locs1 ht _ _ hB _ _ hS1 h1 h2 h3 => kx E ce q9 H1 locs1 hB.1 (by rw [← ht]; exact hB.2) hS1 h1 h2 h3) (fun r u t H1 locs1 ht _ hp hB _ _ hS1 => by obtain ⟨hk, hp⟩ := hp; subst hp; exact kk H1 locs1 hk (by rw [← ht]; exact hB) hS1)
theorem bv_cxv {k : Int32} {Ex : String} {mc ms : Nat} {st0 : List Value} {a : Array Value} (hr : vx_Run p l e R s m args below meth c H locs cells slots mc ms (F0 m pc ls st0) rest (va_Qv (fun (_ : Unit) => k = 0) (fun _ t => bv_H G S' M' z' t.heap) (bv_A G) a) (bv_XC G S M z k Ex) (bv_A G)) (hS : va_S (bv_A G) s.heap H locs) (kx : bv_kx p l e R s m args below meth c (cells + mc) (slots + ms) Q G S M z k Ex pc ls rest) (kk : ∀ (H1 : Heap) (locs1 : List Loc), k = 0 → bv_H G S' M' z' H1 → va_S (bv_A G) s.heap H1 locs1 → W p l e R s m args below meth c H1 locs1 (cells + mc) (slots + ms) Q (F0 m (pc + 3) ls rest)) : W p l e R s m args below meth c H locs cells slots Q (F0 m pc ls st0) :=
  vx_callv hr hS (fun _ _ h => h) (fun _ h => h) (fun _ _ h => h) (fun E ce q9 u t H1 locs1 ht _ _ hB _ _ hS1 h1 h2 h3 => kx E ce q9 H1 locs1 hB.1 (by rw [← ht]; exact hB.2) hS1 h1 h2 h3) (fun u t H1 locs1 ht _ hp hB _ _ hS1 => kk H1 locs1 hp (by rw [← ht]; exact hB) hS1)
theorem bv_callr {S1 SX : Type} {post : S1 → Prop} {px : SX → Prop} {B : S1 → Nat → State → Prop} {BX : String → SX → State → Prop} {A0 A1 AX : Nat → Prop} {free : Addr → Prop} {H0 : Heap} {mc ms : Nat} {st0 : List Value} {a : Array Value} (hr : vx_Run p l e R s m args below meth c H locs cells slots mc ms (F0 m pc ls st0) rest (va_Qr post B A1 a) (vx_X px BX AX) free) (hS : va_S A0 H0 H locs) (hA : ∀ q, q < H.size → A1 q → A0 q) (hf : ∀ q, free q → A0 q) (hAX : ∀ q, q < H.size → AX q → A0 q) (kx : ∀ (E : String) (ce : Cell) (q9 : Addr) (u : SX) (t : State) (H1 : Heap) (locs1 : List Loc), t.heap = H1 → s.vm.Alike t.vm → px u → BX E u t → H.size ≤ H1.size → (∀ q : Nat, q < H.size → ¬ AX q → H1[q]? = H[q]?) → va_S A0 H0 H1 locs1 → H1[q9]? = some ce → ce.vm = .none → s.vm.findClass E = some ce.cls → vx_W p l e R s m args below meth c H1 locs1 (cells + mc) (slots + ms) Q (F0 m pc ls rest) q9) (kk : ∀ (u : S1) (ra : Nat) (t : State) (H1 : Heap) (locs1 : List Loc), t.heap = H1 → s.vm.Alike t.vm → post u → B u ra t → H.size ≤ H1.size → (∀ q : Nat, q < H.size → ¬ A1 q → H1[q]? = H[q]?) → va_S A0 H0 H1 locs1 → W p l e R s m args below meth c H1 locs1 (cells + mc) (slots + ms) Q (F0 m (pc + 3) ls (.ref ra :: rest))) : W p l e R s m args below meth c H locs cells slots Q (F0 m pc ls st0) := by
  intro T hT X
  rcases hr T hT X with ⟨v, st₀, t, T', L, h0, X', hL, e1, e2, ⟨⟨u, ra, hv, hp, hb⟩, hF⟩, st⟩ | ⟨q, st₀, t, T', L, E, ce, h0, X', hL, e1, e2, ⟨u, hp, hb, hF⟩, hce, hcv, hcl, st⟩
  · cases hv
    obtain ⟨k1, k2, k3⟩ := vx_keep h0 e1 hS hA hf hL hF
    obtain ⟨t2, a1, b1⟩ := kk u ra t T'.heap (locs ++ L) e1.symm (by rw [← e2]; exact X'.warmed.alike) hp hb k1 k2 k3 T' rfl X'
    exact ⟨t2, st t2 a1, b1⟩
  · obtain ⟨k1, k2, k3⟩ := vx_keep h0 e1 hS hAX hf hL hF
    obtain ⟨t2, a1, b1⟩ := kx E ce q u t T'.heap (locs ++ L) e1.symm (by rw [← e2]; exact X'.warmed.alike) hp hb k1 k2 k3 (by rw [e1]; exact hce) hcv hcl T' rfl X'
    exact ⟨t2, st.trans a1, b1⟩
theorem bv_cxr {f : Nat} {k : Int32} {Ex : String} {mc ms : Nat} {st0 : List Value} {a : Array Value} (hr : vx_Run p l e R s m args below meth c H locs cells slots mc ms (F0 m pc ls st0) rest (va_Qr (fun (_ : Unit) => k = 0) (fun _ q t => q = f ∧ bv_H G S M z t.heap) (bv_A G) a) (bv_XC G S M z k Ex) (bv_A G)) (hS : va_S (bv_A G) s.heap H locs) (kx : bv_kx p l e R s m args below meth c (cells + mc) (slots + ms) Q G S M z k Ex pc ls rest) (kk : ∀ (H1 : Heap) (locs1 : List Loc), k = 0 → bv_H G S M z H1 → va_S (bv_A G) s.heap H1 locs1 → W p l e R s m args below meth c H1 locs1 (cells + mc) (slots + ms) Q (F0 m (pc + 3) ls (.ref f :: rest))) : W p l e R s m args below meth c H locs cells slots Q (F0 m pc ls st0) :=
  bv_callr hr hS (fun _ _ h => h) (fun _ h => h) (fun _ _ h => h) (fun E ce q9 u t H1 locs1 ht _ _ hB _ _ hS1 h1 h2 h3 => kx E ce q9 H1 locs1 hB.1 (by rw [← ht]; exact hB.2) hS1 h1 h2 h3) (fun u ra t H1 locs1 ht _ hp hB _ _ hS1 => by obtain ⟨hp2, hB⟩ := hB; subst hp2; exact kk H1 locs1 hp (by rw [← ht]; exact hB) hS1)
/-- not caught here -/
theorem bv_xout {Qc : Array Value → State → Outcome → State → Prop} {k k0 : Int32} {Ex : String} {mc ms : Nat} (hout : ∀ x ∈ c.exceptionTable.toList, False) (hlocks : meth.locks = false) (hc : cells ≤ mc) (hs : slots ≤ ms) (hk : ¬ k = 0 → k0 = k) : bv_kx p l e R s m args below meth c cells slots (vx_MQ below Qc (bv_XC G S M z k0 Ex) args s mc ms (bv_A G)) G S M z k Ex pc ls rest := by
  intro E ce q9 H1 locs1 hX hP hS h1 h2 h3
  have e : k0 = k := hk (by rcases hX with ⟨-, h⟩ | ⟨-, h⟩ <;> rw [h] <;> decide)
  subst e
  exact vx_out (fun x h => (hout x h).elim) hlocks h1 h2 h3 (fun t ht _ => ⟨(), trivial, ⟨hX, by rw [ht]; exact hP⟩, hS.F ht⟩) hS.2.2 hc hs
end BVR
end
section
/-! ===== PURE: what the calls answer, over the rows of numbers ===== -/
abbrev bv_rg (v lo hi : Int32) : Prop := ¬ v < lo ∧ ¬ hi < v
def bJ (c : Prop) [Decidable c] : Int32 := if c then 2 else 0
theorem bJ_t {c : Prop} [Decidable c] (h : c) : bJ c = 2 := if_pos h
theorem bJ_f {c : Prop} [Decidable c] (h : ¬ c) : bJ c = 0 := if_neg h
theorem bJ_1 {c : Prop} [Decidable c] (h : ¬ bJ c = 0) : c := by
  by_cases q : c
  · exact q
  · exact absurd (bJ_f q) h
theorem bJ_0 {c : Prop} [Decidable c] (h : bJ c = 0) : ¬ c := by
  intro q
  rw [bJ_t q] at h
  exact absurd h (by decide)
theorem bv_nl {a b : Int32} (h : ¬ a < b) : b ≤ a := by
  rw [Int32.le_iff_toInt_le]
  rw [Int32.lt_iff_toInt_lt] at h
  omega
theorem bv_nlt {a b : Int32} (h : ¬ a ≤ b) : b < a := by
  rw [Int32.lt_iff_toInt_lt]
  rw [Int32.le_iff_toInt_le] at h
  omega
theorem bv_ln {a b : Int32} (h : a ≤ b) : ¬ b < a := by
  rw [Int32.lt_iff_toInt_lt]
  rw [Int32.le_iff_toInt_le] at h
  omega
theorem bv_ltn {a b : Int32} (h : a < b) : ¬ b ≤ a := by
  rw [Int32.le_iff_toInt_le]
  rw [Int32.lt_iff_toInt_lt] at h
  omega
theorem bv_ofN {x : Int32} {n : Nat} {y : Int32} (hn : n < 2 ^ 31) (h1 : ¬ x < 0) (hy : y = nI n) (h2 : ¬ y ≤ x) : ∃ j, j < n ∧ x = nI j := by
  obtain ⟨j, hj, e⟩ := nI_of h1
  subst e
  subst hy
  refine ⟨j, ?_, rfl⟩
  rcases Nat.lt_or_ge j n with h | h
  · exact h
  · exact absurd (nI_le h hj) h2
theorem bv_ofR {x : Int32} {n : Nat} {y : Int32} (hn : n < 2 ^ 31) (hy : y = nI n) (h : bv_rg x 0 y) : ∃ j, j < n + 1 ∧ x = nI j := by
  obtain ⟨h1, h2⟩ := h
  obtain ⟨j, hj, e⟩ := nI_of h1
  subst e
  subst hy
  refine ⟨j, ?_, rfl⟩
  rcases Nat.lt_or_ge j (n + 1) with h | h
  · exact h
  · exact absurd (nI_lt (show n < j by omega) hj) h2
theorem bv_of8 {x : Int32} (h : bv_rg x 0 7) : ∃ j, j < 8 ∧ x = nI j := bv_ofR (n := 7) (by decide) rfl h
theorem bv_of16 {x : Int32} (h : bv_rg x 0 15) : ∃ j, j < 16 ∧ x = nI j := bv_ofR (n := 15) (by decide) rfl h
theorem bv_in8 {j : Nat} (h : j < 8) : bv_rg (nI j) 0 7 := ⟨nI_pos (by omega), nI_nlt (a := 7) (b := j) (by omega) (by decide)⟩
theorem bv_in16 {j : Nat} (h : j < 16) : bv_rg (nI j) 0 15 := ⟨nI_pos (by omega), nI_nlt (a := 15) (b := j) (by omega) (by decide)⟩
theorem bv_cl {j n : Nat} (h : j < n) (hn : n < 2 ^ 31) : (nI j).toNatClampNeg = j := nI_clamp (Nat.lt_trans h hn)
/-- of the days -/
def bv_vo (d p : Int32) : Int32 := if 0 < d - p then d - p else 0
def bv_ov (d p : Int32) : Int32 := if d ≤ p then 0 else d - p
theorem bv_vo_ov {a b : Nat} (ha : a < 2 ^ 30) (hb : b < 2 ^ 30) : bv_vo (nI a) (nI b) = bv_ov (nI a) (nI b) := by
  unfold bv_vo bv_ov
  have e := pk_sub_toInt ha hb
  by_cases h : a ≤ b
  · rw [if_pos (nI_le h (by omega)), if_neg]
    intro h2
    rw [Int32.lt_iff_toInt_lt, e] at h2
    have : (0 : Int32).toInt = 0 := rfl
    omega
  · rw [if_neg (nI_ge (by omega) (by omega)), if_pos]
    rw [Int32.lt_iff_toInt_lt, e]
    have : (0 : Int32).toInt = 0 := rfl
    omega
def bv_vn (d p : Int32) : Int32 := if bv_vo d p / 30 < 3 then bv_vo d p / 30 else 3
/-- the order that binds: of the orders below n -/
def bv_bn (X : bv_X) (b : Int32) : Nat → Int32
  | 0 => -1
  | n + 1 => if ¬ X 8 n = 0 ∧ X 4 n = b ∧ (bv_bn X b n = -1 ∨ ¬ X 5 n < X 5 (bv_bn X b n).toNatClampNeg) then nI n else bv_bn X b n
theorem bv_bn_s (X : bv_X) (b : Int32) (n : Nat) : bv_bn X b (n + 1) = if ¬ X 8 n = 0 ∧ X 4 n = b ∧ (bv_bn X b n = -1 ∨ ¬ X 5 n < X 5 (bv_bn X b n).toNatClampNeg) then nI n else bv_bn X b n := rfl
theorem bv_bn_is (X : bv_X) (b : Int32) : ∀ n, bv_bn X b n = -1 ∨ ∃ t, t < n ∧ bv_bn X b n = nI t ∧ ¬ X 8 t = 0 ∧ X 4 t = b
  | 0 => Or.inl rfl
  | n + 1 => by
    rw [bv_bn_s]
    split
    · rename_i h
      exact Or.inr ⟨n, by omega, rfl, h.1, h.2.1⟩
    · rcases bv_bn_is X b n with h | ⟨t, h1, h2⟩
      · exact Or.inl h
      · exact Or.inr ⟨t, by omega, h2⟩
theorem bv_bn_ix {X : bv_X} {b : Int32} {n : Nat} (h : ¬ bv_bn X b n = -1) : ∃ t, t < n ∧ bv_bn X b n = nI t ∧ ¬ X 8 t = 0 ∧ X 4 t = b := (bv_bn_is X b n).resolve_left h
theorem bv_m1 {t : Nat} (h : t < 2 ^ 31) : ¬ nI t = -1 := by
  intro e
  have h1 := nI_toInt h
  rw [e] at h1
  have : (-1 : Int32).toInt = -1 := rfl
  omega
/-- has one of the proxies below n the day -/
def bv_px (P F T : Nat → Int32) (q d : Int32) : Nat → Bool
  | 0 => false
  | n + 1 => bv_px P F T q d n || decide (P n = q ∧ ¬ d < F n ∧ ¬ T n < d)
theorem bv_px_s (P F T : Nat → Int32) (q d : Int32) (n : Nat) : bv_px P F T q d (n + 1) = (bv_px P F T q d n || decide (P n = q ∧ ¬ d < F n ∧ ¬ T n < d)) := rfl
theorem bv_px_le {P F T : Nat → Int32} {q d : Int32} {n m : Nat} (h : bv_px P F T q d n = true) (hm : n ≤ m) : bv_px P F T q d m = true := by
  induction m with
  | zero =>
    have e : n = 0 := by omega
    subst e
    exact h
  | succ m ih =>
    by_cases e : n = m + 1
    · subst e
      exact h
    · rw [bv_px_s, ih (by omega)]
      rfl
theorem bv_px_c {P F T P' F' T' : Nat → Int32} {q d : Int32} : ∀ {n : Nat}, (∀ i, i < n → P i = P' i ∧ F i = F' i ∧ T i = T' i) → bv_px P F T q d n = bv_px P' F' T' q d n
  | 0, _ => rfl
  | n + 1, h => by
    rw [bv_px_s, bv_px_s, bv_px_c (fun i hi => h i (by omega)), (h n (by omega)).1, (h n (by omega)).2.1, (h n (by omega)).2.2]
/-- the orders for a box, below n, ended -/
def bv_fr (X : bv_X) (b : Int32) (n : Nat) : bv_X := fun r i => if r = 8 ∧ i < n ∧ X 4 i = b then 0 else X r i
theorem bv_X_ext {X Y : bv_X} (h : ∀ r i, X r i = Y r i) : X = Y := funext fun r => funext fun i => h r i
theorem bv_up_at (X : bv_X) (r i : Nat) (v : Int32) (a b : Nat) : bv_up X r i v a b = if a = r ∧ b = i then v else X a b := by
  by_cases h : a = r ∧ b = i
  · obtain ⟨rfl, rfl⟩ := h
    rw [if_pos ⟨rfl, rfl⟩, bv_up_ss]
  · rw [if_neg h, bv_up_o _ h]
theorem bv_fr_0 (X : bv_X) (b : Int32) : bv_fr X b 0 = X := bv_X_ext fun r i => if_neg (by omega)
theorem bv_fr_y {X : bv_X} {b : Int32} {n : Nat} (h : X 4 n = b) : bv_up (bv_fr X b n) 8 n 0 = bv_fr X b (n + 1) := by
  apply bv_X_ext
  intro r i
  rw [bv_up_at]
  unfold bv_fr
  by_cases h1 : r = 8 ∧ i = n
  · obtain ⟨rfl, rfl⟩ := h1
    rw [if_pos ⟨rfl, rfl⟩, if_pos ⟨rfl, by omega, h⟩]
  · rw [if_neg h1]
    by_cases h2 : r = 8 ∧ i < n ∧ X 4 i = b
    · rw [if_pos h2, if_pos ⟨h2.1, by omega, h2.2.2⟩]
    · rw [if_neg h2, if_neg]
      intro h3
      have h4 : i ≠ n := fun h4 => h1 ⟨h3.1, h4⟩
      exact h2 ⟨h3.1, by omega, h3.2.2⟩
theorem bv_fr_n {X : bv_X} {b : Int32} {n : Nat} (h : ¬ X 4 n = b) : bv_fr X b n = bv_fr X b (n + 1) := by
  apply bv_X_ext
  intro r i
  unfold bv_fr
  by_cases h2 : r = 8 ∧ i < n ∧ X 4 i = b
  · rw [if_pos h2, if_pos ⟨h2.1, by omega, h2.2.2⟩]
  · rw [if_neg h2, if_neg]
    intro h3
    have h4 : i ≠ n := fun h4 => h (by rw [← h4]; exact h3.2.2)
    exact h2 ⟨h3.1, by omega, h3.2.2⟩
theorem bv_fr_ne {X : bv_X} {b : Int32} {n r : Nat} (h : r ≠ 8) : bv_fr X b n r = X r := funext fun i => if_neg (fun h2 => h h2.1)
/-- the rows 'java.lang' of a throw -/
theorem bv_at98_2 : ∀ w ∈ (vx_atS RX2 98 "java/lang/IllegalArgumentException" ["java/lang/RuntimeException", "java/lang/Exception"]).filter (fun w => !goodWord w), w ∈ bv_nw := by decide +kernel
theorem bv_at98_g : ∀ w ∈ Cond.classLink RX2 94 "java/lang/IllegalArgumentException" :: Cond.initialized "java/lang/IllegalArgumentException" :: vx_atS RX2 98 "java/lang/IllegalArgumentException" ["java/lang/RuntimeException", "java/lang/Exception"], vx_ot w = true := by decide +kernel
theorem bv_at47_2 : ∀ w ∈ (vx_atS RX2 47 "java/lang/IllegalStateException" ["java/lang/RuntimeException", "java/lang/Exception"]).filter (fun w => !goodWord w), w ∈ bv_nw := by decide +kernel
theorem bv_at47_g : ∀ w ∈ Cond.classLink RX2 43 "java/lang/IllegalStateException" :: Cond.initialized "java/lang/IllegalStateException" :: vx_atS RX2 47 "java/lang/IllegalStateException" ["java/lang/RuntimeException", "java/lang/Exception"], vx_ot w = true := by decide +kernel
theorem bv_at181_2 : ∀ w ∈ (vx_atS RX2 181 "java/lang/IndexOutOfBoundsException" ["java/lang/RuntimeException", "java/lang/Exception"]).filter (fun w => !goodWord w), w ∈ bv_nw := by decide +kernel
theorem bv_at181_g : ∀ w ∈ Cond.classLink RX2 177 "java/lang/IndexOutOfBoundsException" :: Cond.initialized "java/lang/IndexOutOfBoundsException" :: vx_atS RX2 181 "java/lang/IndexOutOfBoundsException" ["java/lang/RuntimeException", "java/lang/Exception"], vx_ot w = true := by decide +kernel
/-- a loop: what it has made is told by how often it went round -/
theorem bv_loop {p : Program} {l : Launch} {e : Env} {R : Room} {s : State} {m : MethodId} {args : Array Value} {below : List Frame} {meth : Method} {c : Code} {cells slots : Nat} {Q : State → Prop} {G : bv_G} {z : bv_Z} {nL head : Nat} (N : Nat) (Sf Mf : Nat → bv_X) (lv : Nat → List (Nat × Value)) (Iv : Nat → Prop)
    (body : ∀ i, i ≤ N → Iv i → (i < N → Iv (i + 1) → ∀ (H : Heap) (locs : List Loc) (ls : Array Slot), bv_H G (Sf (i + 1)) (Mf (i + 1)) z H → va_S (bv_A G) s.heap H locs → lv_has ls nL (lv (i + 1)) → W p l e R s m args below meth c H locs cells slots Q (F0 m head ls [])) → ∀ (H : Heap) (locs : List Loc) (ls : Array Slot), bv_H G (Sf i) (Mf i) z H → va_S (bv_A G) s.heap H locs → lv_has ls nL (lv i) → W p l e R s m args below meth c H locs cells slots Q (F0 m head ls []))
    (h0 : Iv 0) : ∀ (H : Heap) (locs : List Loc) (ls : Array Slot), bv_H G (Sf 0) (Mf 0) z H → va_S (bv_A G) s.heap H locs → lv_has ls nL (lv 0) → W p l e R s m args below meth c H locs cells slots Q (F0 m head ls []) := by
  have key : ∀ (d i : Nat), i + d = N → Iv i → ∀ (H : Heap) (locs : List Loc) (ls : Array Slot), bv_H G (Sf i) (Mf i) z H → va_S (bv_A G) s.heap H locs → lv_has ls nL (lv i) → W p l e R s m args below meth c H locs cells slots Q (F0 m head ls []) := by
    intro d
    induction d with
    | zero => exact fun i hi hv => body i (by omega) hv (fun h => absurd h (by omega))
    | succ d ih => exact fun i hi hv => body i (by omega) hv (fun _ hv2 => ih (i + 1) (by omega) hv2)
  exact key N 0 (by omega) h0
end
section
/-! ===== THE CALLS, over the model's rows ===== -/
theorem bv_lt_of {x : Int32} {i c : Nat} (ec : x = nI c) (hc : c < 2 ^ 31) (hi : i ≤ c) (h : ¬ x ≤ nI i) : i < c := by
  subst ec
  rcases Nat.lt_or_ge i c with q | q
  · exact q
  · exact absurd (nI_le q (by omega)) h
theorem bv_eq_of {x : Int32} {i c : Nat} (ec : x = nI c) (hc : c < 2 ^ 31) (hi : i ≤ c) (h : x ≤ nI i) : i = c := by
  subst ec
  have := (nI_leI hc (show i < 2 ^ 31 by omega)).mp h
  omega
/-- what the vault holds where the model holds X -/
def bv_vw (X : bv_X) : bv_X := fun r j => if r = 10 then (if X 9 j = 0 then -1 else X 10 j) else if r < 16 then X r j else if r < 40 then (if j < 5 then X (16 + (r - 16) / 8) (5 * ((r - 16) % 8) + j) else 0) else 0
theorem bv_vw_r (X : bv_X) {r : Nat} (h : r < 16) (h2 : r ≠ 10) : bv_vw X r = X r := by
  funext j
  unfold bv_vw
  rw [if_neg h2, if_pos h]
theorem bv_vw_h (X : bv_X) {j : Nat} (h : ¬ X 9 j = 0) : bv_vw X 10 j = X 10 j := by
  unfold bv_vw
  rw [if_pos rfl, if_neg h]
theorem bv_vw_h0 (X : bv_X) {j : Nat} (h : X 9 j = 0) : bv_vw X 10 j = -1 := by
  unfold bv_vw
  rw [if_pos rfl, if_pos h]
theorem bv_vw_p (X : bv_X) {j i k : Nat} (hk : k < 3) (hj : j < 8) (hi : i < 5) : bv_vw X (16 + 8 * k + j) i = X (16 + k) (5 * j + i) := by
  unfold bv_vw
  rw [if_neg (by omega), if_neg (by omega), if_pos (by omega), if_pos hi, show (16 + 8 * k + j - 16) / 8 = k by omega, show (16 + 8 * k + j - 16) % 8 = j by omega]
/-- stores into rows that are the same on both sides -/
theorem bv_vw_up (X : bv_X) {r i : Nat} {v : Int32} (h : r < 16) (h9 : r ≠ 9) (h10 : r ≠ 10) : bv_up (bv_vw X) r i v = bv_vw (bv_up X r i v) := by
  apply bv_X_ext
  intro a b
  rw [bv_up_at]
  by_cases h1 : a = r ∧ b = i
  · obtain ⟨rfl, rfl⟩ := h1
    rw [if_pos ⟨rfl, rfl⟩, bv_vw_r _ h h10, bv_up_ss]
  · rw [if_neg h1]
    unfold bv_vw
    by_cases q : a = 10
    · subst q
      rw [if_pos rfl, if_pos rfl, bv_up_o _ (by omega), bv_up_o _ (by omega)]
    · rw [if_neg q, if_neg q]
      by_cases q2 : a < 16
      · rw [if_pos q2, if_pos q2, bv_up_o _ h1]
      · rw [if_neg q2, if_neg q2, bv_up_o _ (by omega)]
theorem bv_vw_upp (X : bv_X) {j i k : Nat} {v : Int32} (hk : k < 3) (hj : j < 8) (hi : i < 5) : bv_up (bv_vw X) (16 + 8 * k + j) i v = bv_vw (bv_up X (16 + k) (5 * j + i) v) := by
  apply bv_X_ext
  intro a b
  rw [bv_up_at]
  by_cases h1 : a = 16 + 8 * k + j ∧ b = i
  · obtain ⟨rfl, rfl⟩ := h1
    rw [if_pos ⟨rfl, rfl⟩, bv_vw_p _ hk hj hi, bv_up_ss]
  · rw [if_neg h1]
    unfold bv_vw
    by_cases q : a = 10
    · subst q
      rw [if_pos rfl, if_pos rfl, bv_up_o _ (by omega), bv_up_o _ (by omega)]
    · rw [if_neg q, if_neg q]
      by_cases q2 : a < 16
      · rw [if_pos q2, if_pos q2, bv_up_o _ (by omega)]
      · rw [if_neg q2, if_neg q2]
        by_cases q3 : a < 40
        · rw [if_pos q3, if_pos q3]
          by_cases q4 : b < 5
          · rw [if_pos q4, if_pos q4, bv_up_o]
            rintro ⟨e1, e2⟩
            apply h1
            have e3 : (a - 16) / 8 = k := by omega
            have e4 : (a - 16) % 8 = j := by omega
            exact ⟨by omega, by omega⟩
          · rw [if_neg q4, if_neg q4]
        · rw [if_neg q3, if_neg q3]
/-- a box becomes rented -/
theorem bv_vw_rent (X : bv_X) {j : Nat} {h v : Int32} (hv : ¬ v = 0) : bv_up (bv_up (bv_vw X) 9 j v) 10 j h = bv_vw (bv_up (bv_up X 9 j v) 10 j h) := by
  apply bv_X_ext
  intro a b
  rw [bv_up_at, bv_up_at]
  unfold bv_vw
  by_cases q : a = 10
  · subst q
    rw [if_pos rfl, if_pos rfl]
    by_cases q1 : b = j
    · subst q1
      rw [if_pos ⟨rfl, rfl⟩, bv_up_o _ (by omega), bv_up_ss, if_neg hv, bv_up_ss]
    · rw [if_neg (by omega), if_neg (by omega), bv_up_o _ (by omega), bv_up_o _ (by omega), bv_up_o _ (by omega), bv_up_o _ (by omega)]
  · rw [if_neg (by omega), if_neg q, if_neg q]
    by_cases q1 : a = 9 ∧ b = j
    · obtain ⟨rfl, rfl⟩ := q1
      rw [if_pos ⟨rfl, rfl⟩, if_pos (by omega), bv_up_o _ (by omega), bv_up_ss]
    · rw [if_neg q1]
      by_cases q2 : a < 16
      · rw [if_pos q2, if_pos q2, bv_up_o _ (by omega), bv_up_o _ q1]
      · rw [if_neg q2, if_neg q2, bv_up_o _ (by omega), bv_up_o _ (by omega)]
/-- .. free -/
theorem bv_vw_fr (X : bv_X) (b : Int32) (n : Nat) : bv_fr (bv_vw X) b n = bv_vw (bv_fr X b n) := by
  apply bv_X_ext
  intro r i
  show (if r = 8 ∧ i < n ∧ bv_vw X 4 i = b then 0 else bv_vw X r i) = bv_vw (bv_fr X b n) r i
  by_cases h8 : r = 8
  · subst h8
    rw [bv_vw_r X (r := 4) (by decide) (by decide), bv_vw_r X (r := 8) (by decide) (by decide), bv_vw_r _ (r := 8) (by decide) (by decide)]
    rfl
  · rw [if_neg (fun h => h8 h.1)]
    unfold bv_vw
    rw [bv_fr_ne (r := 9) (by decide), bv_fr_ne (r := 10) (by decide), bv_fr_ne (r := r) h8, bv_fr_ne (r := 16 + (r - 16) / 8) (by omega)]
theorem bv_vw_bn (X : bv_X) (b : Int32) : ∀ n, bv_bn (bv_vw X) b n = bv_bn X b n
  | 0 => rfl
  | n + 1 => by
    rw [bv_bn_s, bv_bn_s, bv_vw_bn X b n, bv_vw_r X (r := 4) (by decide) (by decide), bv_vw_r X (r := 5) (by decide) (by decide), bv_vw_r X (r := 8) (by decide) (by decide)]
/-- the order that binds a box -/
def bv_bd (X : bv_X) (b : Int32) : Int32 := bv_bn X b (X 0 1).toNatClampNeg
theorem bv_bd_c {X : bv_X} {b : Int32} {c : Nat} (ec : X 0 1 = nI c) (hc : c ≤ 30) : bv_bn X b c = bv_bd X b := by
  unfold bv_bd
  rw [ec, nI_clamp (by omega)]
abbrev bv_hr (X : bv_X) (q h : Nat) : Prop := ((X 2 h >>> (nI q &&& 31)) &&& 1) = 1
abbrev bv_hd (X : bv_X) (j : Nat) : Nat := (X 10 j).toNatClampNeg
/-- may a person who is alive, by the order o for the box j -/
abbrev bv_od (X : bv_X) (o j q : Nat) : Prop := (X 6 o = 1 ∧ nI q = X 7 o) ∨ (X 6 o = 2 ∧ ¬ X 1 (bv_hd X j) = 0 ∧ bv_hr X q (bv_hd X j))
def bv_nt (X : bv_X) (j : Nat) : Int32 := if ¬ X 9 j = 1 then 0 else if bv_ov (X 0 0) (X 11 j) / 30 ≤ 3 then bv_ov (X 0 0) (X 11 j) / 30 else 3
def bv_prx (X : bv_X) (j q : Nat) : Bool := bv_px (fun i => X 16 (5 * j + i)) (fun i => X 17 (5 * j + i)) (fun i => X 18 (5 * j + i)) (nI q) (X 0 0) (X 15 j).toNatClampNeg
def bv_rt (X : bv_X) (j q : Nat) : Int32 :=
  if ¬ X 9 j = 1 ∨ ¬ X 1 q = 0 then 3
  else if ¬ bv_bd X (nI j) = -1 then (if bv_od X (bv_bd X (nI j)).toNatClampNeg j q then 0 else 3)
  else if X 1 (bv_hd X j) = 0 then (if bv_nt X j = 0 ∧ (nI q = X 10 j ∨ bv_prx X j q = true) then 0 else 3)
  else if bv_hr X q (bv_hd X j) ∧ X 14 j = 0 then 1 else 3
abbrev bv_mf (X : bv_X) (j q : Nat) : Prop := X 1 q = 0 ∧ (if ¬ bv_bd X (nI j) = -1 then bv_od X (bv_bd X (nI j)).toNatClampNeg j q else if X 1 (bv_hd X j) = 0 then nI q = X 10 j else bv_hr X q (bv_hd X j))
/-- what holds of the rows, n calls after the start -/
def bv_I (n : Nat) (X : bv_X) : Prop :=
  (∃ t, t ≤ 99999 ∧ X 0 0 = nI t) ∧ (∃ c, c ≤ 30 ∧ X 0 1 = nI c) ∧ (∀ p, p < 16 → X 1 p = 0 ∨ X 1 p = 1) ∧
  (∀ i, i < 30 → (X 8 i = 0 ∨ X 8 i = 1) ∧ ∃ b, b < 8 ∧ X 4 i = nI b) ∧
  (∀ j, j < 8 → (X 9 j = 0 ∨ X 9 j = 1 ∨ X 9 j = 2) ∧ (∃ h, h < 16 ∧ X 10 j = nI h) ∧ (∃ d, d ≤ 101000 + 1000 * n ∧ X 11 j = nI d) ∧ (X 14 j = 0 ∨ X 14 j = 1) ∧ ∃ c, c ≤ 5 ∧ X 15 j = nI c)
theorem bv_I_now {n : Nat} {X : bv_X} (h : bv_I n X) : ∃ t, t ≤ 99999 ∧ X 0 0 = nI t := h.1
theorem bv_I_cnt {n : Nat} {X : bv_X} (h : bv_I n X) : ∃ c, c ≤ 30 ∧ X 0 1 = nI c := h.2.1
theorem bv_I_dead {n : Nat} {X : bv_X} (h : bv_I n X) {p : Nat} (hp : p < 16) : X 1 p = 0 ∨ X 1 p = 1 := h.2.2.1 p hp
theorem bv_I_holds {n : Nat} {X : bv_X} (h : bv_I n X) {i : Nat} (hi : i < 30) : X 8 i = 0 ∨ X 8 i = 1 := (h.2.2.2.1 i hi).1
theorem bv_I_at {n : Nat} {X : bv_X} (h : bv_I n X) {i : Nat} (hi : i < 30) : ∃ b, b < 8 ∧ X 4 i = nI b := (h.2.2.2.1 i hi).2
theorem bv_I_st {n : Nat} {X : bv_X} (h : bv_I n X) {j : Nat} (hj : j < 8) : X 9 j = 0 ∨ X 9 j = 1 ∨ X 9 j = 2 := (h.2.2.2.2 j hj).1
theorem bv_I_hd {n : Nat} {X : bv_X} (h : bv_I n X) {j : Nat} (hj : j < 8) : ∃ d, d < 16 ∧ X 10 j = nI d ∧ bv_hd X j = d := by
  obtain ⟨d, h1, h2⟩ := (h.2.2.2.2 j hj).2.1
  exact ⟨d, h1, h2, by unfold bv_hd; rw [h2]; exact nI_clamp (by omega)⟩
theorem bv_I_paid {n : Nat} {X : bv_X} (h : bv_I n X) {j : Nat} (hj : j < 8) : ∃ d, d ≤ 101000 + 1000 * n ∧ X 11 j = nI d := (h.2.2.2.2 j hj).2.2.1
theorem bv_I_will {n : Nat} {X : bv_X} (h : bv_I n X) {j : Nat} (hj : j < 8) : X 14 j = 0 ∨ X 14 j = 1 := (h.2.2.2.2 j hj).2.2.2.1
theorem bv_I_px {n : Nat} {X : bv_X} (h : bv_I n X) {j : Nat} (hj : j < 8) : ∃ c, c ≤ 5 ∧ X 15 j = nI c := (h.2.2.2.2 j hj).2.2.2.2
theorem bv_I_ov {n : Nat} {X : bv_X} (h : bv_I n X) (hn : n ≤ 1000) {j : Nat} (hj : j < 8) : bv_vo (X 0 0) (X 11 j) = bv_ov (X 0 0) (X 11 j) := by
  obtain ⟨t, h1, h2⟩ := bv_I_now h
  obtain ⟨d, h3, h4⟩ := bv_I_paid h hj
  rw [h2, h4]
  exact bv_vo_ov (by omega) (by omega)
theorem bv_min3 (x : Int32) : (if x < 3 then x else 3) = (if x ≤ 3 then x else 3) := by
  have e3 : (3 : Int32).toInt = 3 := rfl
  by_cases h : x < 3
  · rw [if_pos h, if_pos]
    rw [Int32.lt_iff_toInt_lt] at h
    rw [Int32.le_iff_toInt_le]
    omega
  · by_cases h2 : x ≤ 3
    · rw [if_neg h, if_pos h2]
      rw [Int32.lt_iff_toInt_lt] at h
      rw [Int32.le_iff_toInt_le] at h2
      apply Int32.toInt_inj.mp
      omega
    · rw [if_neg h, if_neg h2]
theorem bv_I_vn {n : Nat} {X : bv_X} (h : bv_I n X) (hn : n ≤ 1000) {j : Nat} (hj : j < 8) (h1 : X 9 j = 1) : bv_vn (X 0 0) (X 11 j) = bv_nt X j := by
  unfold bv_vn bv_nt
  rw [bv_I_ov h hn hj, bv_min3, if_neg (c := ¬ X 9 j = 1) (fun h2 => h2 h1)]
theorem bv_I_bd {n : Nat} {X : bv_X} (h : bv_I n X) {b : Int32} (hb : ¬ bv_bd X b = -1) : ∃ o, o < 30 ∧ bv_bd X b = nI o ∧ (bv_bd X b).toNatClampNeg = o ∧ X 4 o = b ∧ ¬ X 0 1 ≤ nI o := by
  obtain ⟨c, h1, h2⟩ := bv_I_cnt h
  rw [← bv_bd_c h2 h1] at hb ⊢
  obtain ⟨t, ht, e, -, e2⟩ := bv_bn_ix hb
  exact ⟨t, by omega, e, by rw [e]; exact nI_clamp (by omega), e2, by rw [h2]; exact nI_ge ht (by omega)⟩
end
section
/-- the number on top, by another name -/
theorem bv_eqi {p : Program} {l : Launch} {e : Env} {R : Room} {s : State} {m : MethodId} {args : Array Value} {below : List Frame} {meth : Method} {c : Code} {H : Heap} {locs : List Loc} {cells slots : Nat} {Q : State → Prop} {pc : Nat} {ls : Array Slot} {rest : List Value} {x y : Int32} (h : x = y) (k : W p l e R s m args below meth c H locs cells slots Q (F0 m pc ls (.int y :: rest))) : W p l e R s m args below meth c H locs cells slots Q (F0 m pc ls (.int x :: rest)) := by
  subst h
  exact k
end
section
/-! ===== PURE, for the vault's and the model's own helpers ===== -/
theorem bI_c {c d : Prop} [Decidable c] [Decidable d] (h : c ↔ d) : bI c = bI d := by
  unfold bI
  by_cases q : c
  · rw [if_pos q, if_pos (h.mp q)]
  · rw [if_neg q, if_neg (fun q2 => q (h.mpr q2))]
theorem bv_has_if {x : Int32} {o : Nat} (v : Nat → Int32) (ho : o < 30) (hh : ¬ x ≤ nI o) : (if ¬ nI o < 0 ∧ ¬ x ≤ nI o ∧ ¬ 30 ≤ nI o then v (nI o).toNatClampNeg else -1) = v o := by
  rw [if_pos ⟨nI_pos (by omega), hh, nI_ge (a := o) (b := 30) ho (by decide)⟩, bv_cl ho (by decide)]
theorem bv_vw_prx {n : Nat} {X : bv_X} (hI : bv_I n X) {j q c5 : Nat} (hj : j < 8) (hc : c5 ≤ 5) (ec : X 15 j = nI c5) : bv_px (bv_vw X (16 + j)) (bv_vw X (24 + j)) (bv_vw X (32 + j)) (nI q) (X 0 0) c5 = bv_prx X j q := by
  unfold bv_prx
  rw [ec, nI_clamp (show c5 < 2 ^ 31 by omega)]
  refine bv_px_c fun i hi => ⟨?_, ?_, ?_⟩
  · exact bv_vw_p X (k := 0) (by decide) hj (by omega)
  · have h := bv_vw_p X (k := 1) (i := i) (by decide) hj (by omega)
    rwa [show 16 + 8 * 1 + j = 24 + j by omega] at h
  · have h := bv_vw_p X (k := 2) (i := i) (by decide) hj (by omega)
    rwa [show 16 + 8 * 2 + j = 32 + j by omega] at h
theorem bv_nI_inj {a b : Nat} (ha : a < 2 ^ 31) (hb : b < 2 ^ 31) (h : nI a = nI b) : a = b := (nI_eq ha hb).mp h
theorem bv_mf_e {X : bv_X} {j q d : Nat} (hd : d < 16) (ed : X 10 j = nI d) (ed2 : bv_hd X j = d) (hq : q < 16) (h1 : X 1 q = 0) (hb : bv_bd X (nI j) = -1) : bv_mf X j q ↔ (nI q = X 10 j ∨ (¬ X 1 d = 0 ∧ bv_hr X q d)) := by
  unfold bv_mf
  rw [if_neg (fun h => h hb), ed2]
  constructor
  · rintro ⟨-, h⟩
    by_cases h2 : X 1 d = 0
    · rw [if_pos h2] at h
      exact Or.inl h
    · rw [if_neg h2] at h
      exact Or.inr ⟨h2, h⟩
  · intro h
    refine ⟨h1, ?_⟩
    rcases h with h | ⟨h2, h⟩
    · have e : q = d := bv_nI_inj (by omega) (by omega) (h.trans ed)
      subst e
      rw [if_pos h1]
      exact h
    · rw [if_neg h2]
      exact h
end
section
/-! ===== PURE, for the model's helpers ===== -/
theorem bv_prx_c {X : bv_X} {j q c5 : Nat} (hc : c5 ≤ 5) (ec : X 15 j = nI c5) : bv_px (fun i => X 16 (5 * j + i)) (fun i => X 17 (5 * j + i)) (fun i => X 18 (5 * j + i)) (nI q) (X 0 0) c5 = bv_prx X j q := by
  unfold bv_prx
  rw [ec, nI_clamp (show c5 < 2 ^ 31 by omega)]
theorem bv_up_id {X : bv_X} {r i : Nat} {v : Int32} (h : X r i = v) : bv_up X r i v = X := by
  apply bv_X_ext
  intro a b
  rw [bv_up_at]
  by_cases q : a = r ∧ b = i
  · obtain ⟨rfl, rfl⟩ := q
    rw [if_pos ⟨rfl, rfl⟩, h]
  · rw [if_neg q]
theorem bv_fr_8 (Y : bv_X) (b : Int32) (i : Nat) : bv_fr Y b i 8 i = Y 8 i := if_neg (by omega)
theorem bv_fr_a {Y : bv_X} {b : Int32} {i : Nat} (h : bv_fr Y b i 8 i = 0) : bv_up (bv_fr Y b i) 8 i 0 = bv_fr Y b (i + 1) := by
  by_cases q : Y 4 i = b
  · exact bv_fr_y q
  · rw [bv_up_id h]
    exact bv_fr_n q
theorem bv_fr_b {Y : bv_X} {b : Int32} {i : Nat} (h1 : Y 8 i = 0 ∨ Y 8 i = 1) (h2 : ¬ bv_fr Y b i 8 i = 0) (h3 : ¬ Y 4 i = b) : bv_up (bv_fr Y b i) 8 i 1 = bv_fr Y b (i + 1) := by
  rw [bv_fr_8] at h2
  rw [bv_up_id (by rw [bv_fr_8]; exact h1.resolve_left h2)]
  exact bv_fr_n h3
theorem bv_prx_f {X : bv_X} {i j q c5 : Nat} (hj : j < 8) (hc : c5 ≤ 5) (ec : X 15 j = nI c5) (hi : i ≤ c5) (h : nI (5 * j + c5) ≤ nI (5 * j + i)) : bI (bv_px (fun i => X 16 (5 * j + i)) (fun i => X 17 (5 * j + i)) (fun i => X 18 (5 * j + i)) (nI q) (X 0 0) i = true) = bI (bv_prx X j q = true) := by
  have e := bv_eq_of (x := nI (5 * j + c5)) (c := 5 * j + c5) (i := 5 * j + i) rfl (by omega) (by omega) h
  have e2 : i = c5 := by omega
  rw [e2, bv_prx_c hc ec]
end
section
/-! ===== WHAT EACH CALL DOES: its number of a throw (0 none), its answer, the rows behind it ===== -/
abbrev bv_R : Type := Int32 × Int32 × bv_X
def bv_rb (v lo hi : Int32) : Bool := decide (bv_rg v lo hi)
theorem bv_rb_t {v lo hi : Int32} (h : bv_rg v lo hi) : bv_rb v lo hi = true := decide_eq_true h
theorem bv_rb_f {v lo hi : Int32} (h : ¬ bv_rg v lo hi) : bv_rb v lo hi = false := decide_eq_false h
abbrev bv_nb (x : Int32) : Nat := x.toNatClampNeg
abbrev bv_cnt (X : bv_X) : Nat := bv_nb (X 0 1)
def bv_free (X : bv_X) (j : Nat) : bv_X := bv_fr (bv_up (bv_up X 9 j 0) 15 j 0) (nI j) (bv_cnt X)
def bv_ko (X : bv_X) (j : Nat) : Int32 := if bv_bd X (nI j) = -1 then -1 else X 6 (bv_bd X (nI j)).toNatClampNeg
/-- of a death: whose proxies end, how many boxes are rented -/
def bv_dp (Y : bv_X) (q n : Nat) : bv_X := fun r j => if r = 15 ∧ j < n ∧ ¬ Y 9 j = 0 ∧ Y 10 j = nI q then 0 else Y r j
def bv_dc (X : bv_X) (q : Nat) : Nat → Int32
  | 0 => 0
  | n + 1 => bv_dc X q n + (if X 10 n = nI q ∧ X 9 n = 1 then 1 else 0)
def bv_ma (X : bv_X) (j : Nat) : Nat → Int32
  | 0 => 0
  | n + 1 => bv_ma X j n + (if bv_rt X j n = 3 then 0 else 1)
def bv_hb (X : bv_X) (o : Int32) : Bool := decide (¬ o < 0 ∧ ¬ X 0 1 ≤ o)
def sp_pass (X : bv_X) (p0 : Int32) : bv_R := if bv_rb p0 1 1000 = true then (if 99999 < X 0 0 + p0 then (2, 0, X) else (0, X 0 0 + p0, bv_up X 0 0 (X 0 0 + p0))) else (1, 0, X)
def sp_rent (X : bv_X) (p0 p1 p2 : Int32) : bv_R := if bv_rb p0 0 7 = true ∧ bv_rb p1 0 15 = true ∧ bv_rb p2 1 1000 = true then (if X 9 (bv_nb p0) = 0 ∧ X 1 (bv_nb p1) = 0 then (0, X 0 0 + p2, bv_up (bv_up (bv_up (bv_up (bv_up X 9 (bv_nb p0) 1) 10 (bv_nb p0) p1) 11 (bv_nb p0) (X 0 0 + p2)) 13 (bv_nb p0) 0) 14 (bv_nb p0) 0) else (2, 0, X)) else (1, 0, X)
def sp_extend (X : bv_X) (p0 p1 : Int32) : bv_R := if bv_rb p0 0 7 = true ∧ bv_rb p1 1 1000 = true then (if X 9 (bv_nb p0) = 1 then (0, X 11 (bv_nb p0) + p1, bv_up X 11 (bv_nb p0) (X 11 (bv_nb p0) + p1)) else (2, 0, X)) else (1, 0, X)
def sp_giveBack (X : bv_X) (p0 p1 : Int32) : bv_R := if bv_rb p0 0 7 = true ∧ bv_rb p1 0 15 = true then (if bv_rt X (bv_nb p0) (bv_nb p1) = 0 then (0, X 13 (bv_nb p0), bv_free X (bv_nb p0)) else (2, 0, X)) else (1, 0, X)
def sp_drill (X : bv_X) (p0 p1 p2 : Int32) : bv_R := if bv_rb p0 0 7 = true ∧ bv_rb p1 0 15 = true ∧ bv_rb p2 0 15 = true ∧ ¬ p1 = p2 then (if bv_nt X (bv_nb p0) = 3 ∧ (X 1 (bv_nb p1) = 0 ∧ ¬ p1 = X 10 (bv_nb p0)) ∧ (X 1 (bv_nb p2) = 0 ∧ ¬ p2 = X 10 (bv_nb p0)) ∧ ¬ bv_ko X (bv_nb p0) = 0 then (0, bv_ov (X 0 0) (X 11 (bv_nb p0)), bv_up (bv_up X 12 (bv_nb p0) (bv_ov (X 0 0) (X 11 (bv_nb p0)))) 9 (bv_nb p0) 2) else (2, 0, X)) else (1, 0, X)
def sp_fetch (X : bv_X) (p0 p1 : Int32) : bv_R := if bv_rb p0 0 7 = true ∧ bv_rb p1 0 15 = true then (if X 9 (bv_nb p0) = 2 ∧ bv_mf X (bv_nb p0) (bv_nb p1) then (0, X 12 (bv_nb p0), bv_free X (bv_nb p0)) else (2, 0, X)) else (1, 0, X)
def sp_proxy (X : bv_X) (p0 p1 p2 p3 : Int32) : bv_R := if bv_rb p0 0 7 = true ∧ bv_rb p1 0 15 = true ∧ bv_rb p2 0 99999 = true ∧ bv_rb p3 p2 99999 = true then (if X 9 (bv_nb p0) = 1 ∧ X 1 (bv_hd X (bv_nb p0)) = 0 ∧ ¬ p1 = X 10 (bv_nb p0) ∧ ¬ X 15 (bv_nb p0) = 5 then (0, X 15 (bv_nb p0) + 1, bv_up (bv_up (bv_up (bv_up X 16 (5 * bv_nb p0 + bv_nb (X 15 (bv_nb p0))) p1) 17 (5 * bv_nb p0 + bv_nb (X 15 (bv_nb p0))) p2) 18 (5 * bv_nb p0 + bv_nb (X 15 (bv_nb p0))) p3) 15 (bv_nb p0) (X 15 (bv_nb p0) + 1)) else (2, 0, X)) else (1, 0, X)
def sp_heir (X : bv_X) (p0 p1 p2 : Int32) : bv_R := if bv_rb p0 0 15 = true ∧ bv_rb p1 0 15 = true ∧ ¬ p0 = p1 then (0, bI (bv_hr X (bv_nb p1) (bv_nb p0)), bv_up X 2 (bv_nb p0) (if p2 = 0 then X 2 (bv_nb p0) &&& ((1 <<< (p1 &&& 31)) ^^^ (-1)) else X 2 (bv_nb p0) ||| (1 <<< (p1 &&& 31)))) else (1, 0, X)
def sp_die (X : bv_X) (p0 : Int32) : bv_R := if bv_rb p0 0 15 = true then (if X 1 (bv_nb p0) = 0 then (0, bv_dc X (bv_nb p0) 8, bv_dp (bv_up X 1 (bv_nb p0) 1) (bv_nb p0) 8) else (2, 0, X)) else (1, 0, X)
def sp_order (X : bv_X) (p0 p1 p2 p3 : Int32) : bv_R := if bv_rb p0 0 7 = true ∧ bv_rb p1 0 1 = true ∧ bv_rb p2 0 2 = true ∧ ¬ (p2 = 1 ∧ bv_rb p3 0 15 = false) then (if X 9 (bv_nb p0) = 0 ∨ X 0 1 = 30 then (2, 0, X) else (0, X 0 1, bv_up (bv_up (bv_up (bv_up (bv_up (bv_up X 4 (bv_cnt X) p0) 5 (bv_cnt X) p1) 6 (bv_cnt X) p2) 7 (bv_cnt X) p3) 8 (bv_cnt X) 1) 0 1 (X 0 1 + 1))) else (1, 0, X)
def sp_lift (X : bv_X) (p0 : Int32) : bv_R := if bv_hb X p0 = true then (if X 8 (bv_nb p0) = 0 then (2, 0, X) else (0, bI (bv_bd X (X 4 (bv_nb p0)) = p0), bv_up X 8 (bv_nb p0) 0)) else (1, 0, X)
def bv_co (X : bv_X) (j q : Nat) (k : Int32) : Int32 := if ¬ bv_rt X j q = 3 ∧ k < 60 then 2 else bv_rt X j q
def bv_en (X : bv_X) (j q : Nat) (c : Int32) : bv_X := bv_up (bv_up (bv_up X 3 q (X 3 q + (if c = 2 ∨ c = 3 then 1 else 0))) 13 j (X 13 j + (if c = 0 ∨ c = 1 then 1 else 0))) 14 j (if ¬ X 14 j = 0 ∨ c = 1 then 1 else 0)
def sp_enter (X : bv_X) (p0 p1 p2 : Int32) : bv_R := if bv_rb p0 0 7 = true ∧ bv_rb p1 0 15 = true ∧ bv_rb p2 0 100 = true then (if X 9 (bv_nb p0) = 1 then (0, bv_co X (bv_nb p0) (bv_nb p1) p2, bv_en X (bv_nb p0) (bv_nb p1) (bv_co X (bv_nb p0) (bv_nb p1) p2)) else (2, 0, X)) else (1, 0, X)
def sp_may (X : bv_X) (p0 p1 : Int32) : bv_R := if bv_rb p0 0 7 = true ∧ bv_rb p1 0 15 = true then (0, bv_rt X (bv_nb p0) (bv_nb p1), X) else (1, 0, X)
def sp_mayAll (X : bv_X) (p0 : Int32) : bv_R := if bv_rb p0 0 7 = true then (0, bv_ma X (bv_nb p0) 16, X) else (1, 0, X)
def sp_holder (X : bv_X) (p0 : Int32) : bv_R := if bv_rb p0 0 7 = true then (0, if X 9 (bv_nb p0) = 0 then -1 else X 10 (bv_nb p0), X) else (1, 0, X)
def sp_notices (X : bv_X) (p0 : Int32) : bv_R := if bv_rb p0 0 7 = true then (0, bv_nt X (bv_nb p0), X) else (1, 0, X)
def sp_refusals (X : bv_X) (p0 : Int32) : bv_R := if bv_rb p0 0 15 = true then (0, X 3 (bv_nb p0), X) else (1, 0, X)
def sp_binding (X : bv_X) (p0 : Int32) : bv_R := if bv_rb p0 0 7 = true then (0, bv_bd X p0, X) else (1, 0, X)
/-! what the two sides say otherwise -/
theorem bv_1000 {p0 : Int32} (h : bv_rg p0 1 1000) : ∃ d, 1 ≤ d ∧ d ≤ 1000 ∧ p0 = nI d := by
  obtain ⟨h1, h2⟩ := h
  have h0 : ¬ p0 < 0 := by
    intro h3
    apply h1
    rw [Int32.lt_iff_toInt_lt] at *
    have e0 : (0 : Int32).toInt = 0 := rfl
    have e1 : (1 : Int32).toInt = 1 := rfl
    omega
  obtain ⟨d, hd, e⟩ := nI_of h0
  subst e
  refine ⟨d, ?_, ?_, rfl⟩
  · rcases Nat.lt_or_ge d 1 with q | q
    · exact absurd (nI_lt (b := 1) q (by decide)) h1
    · exact q
  · rcases Nat.lt_or_ge 1000 d with q | q
    · exact absurd (nI_lt (a := 1000) q hd) h2
    · exact q
theorem bv_late {n : Nat} {X : bv_X} (hI : bv_I n X) {p0 : Int32} (h : bv_rg p0 1 1000) : p0 ≤ 99999 - X 0 0 ↔ ¬ 99999 < X 0 0 + p0 := by
  obtain ⟨d, h1, h2, rfl⟩ := bv_1000 h
  obtain ⟨t, h3, h4⟩ := bv_I_now hI
  rw [h4, nI_add, show (99999 : Int32) - nI t = nI (99999 - t) from pk_sub h3, nI_leI (by omega) (by omega), show (99999 : Int32) = nI 99999 from rfl, nI_ltI (by omega) (by omega)]
  omega
theorem bv_nt_le (X : bv_X) (j : Nat) (h : 3 ≤ bv_nt X j) : bv_nt X j = 3 := by
  unfold bv_nt at *
  have e3 : (3 : Int32).toInt = 3 := rfl
  split
  · rename_i h1
    rw [if_pos h1] at h
    exact absurd h (by decide)
  · rename_i h1
    rw [if_neg h1] at h
    split
    · rename_i h2
      rw [if_pos h2] at h
      apply Int32.toInt_inj.mp
      rw [Int32.le_iff_toInt_le] at h h2
      omega
    · rfl
theorem bv_nt_ge {X : bv_X} {j : Nat} (h : ¬ 3 ≤ bv_nt X j) : ¬ bv_nt X j = 3 := by
  intro e
  rw [e] at h
  exact h (by decide)
theorem bv_I_ko {n : Nat} {X : bv_X} (hI : bv_I n X) (j : Nat) : (if ¬ bv_bd X (nI j) < 0 ∧ ¬ X 0 1 ≤ bv_bd X (nI j) ∧ ¬ 30 ≤ bv_bd X (nI j) then X 6 (bv_bd X (nI j)).toNatClampNeg else -1) = bv_ko X j := by
  unfold bv_ko
  by_cases h : bv_bd X (nI j) = -1
  · rw [if_pos h, if_neg]
    rw [h]
    exact fun h2 => h2.1 (by decide)
  · obtain ⟨o, h1, h2, h3, h4, h5⟩ := bv_I_bd hI h
    rw [if_neg h, if_pos]
    rw [h2]
    exact ⟨nI_pos (by omega), h5, nI_ge (a := o) (b := 30) h1 (by decide)⟩
theorem bv_up_comm (X : bv_X) {r r2 i i2 : Nat} {v v2 : Int32} (h : r ≠ r2) : bv_up (bv_up X r i v) r2 i2 v2 = bv_up (bv_up X r2 i2 v2) r i v := by
  apply bv_X_ext
  intro a b
  rw [bv_up_at, bv_up_at, bv_up_at, bv_up_at]
  by_cases q : a = r ∧ b = i
  · rw [if_neg (show ¬ (a = r2 ∧ b = i2) by omega), if_pos q, if_pos q]
  · rw [if_neg q, if_neg q]
theorem bv_vw_u16 (X : bv_X) {j i : Nat} {v : Int32} (hj : j < 8) (hi : i < 5) : bv_up (bv_vw X) (16 + j) i v = bv_vw (bv_up X 16 (5 * j + i) v) := bv_vw_upp X (k := 0) (by decide) hj hi
theorem bv_vw_u24 (X : bv_X) {j i : Nat} {v : Int32} (hj : j < 8) (hi : i < 5) : bv_up (bv_vw X) (24 + j) i v = bv_vw (bv_up X 17 (5 * j + i) v) := by
  have h := bv_vw_upp X (k := 1) (v := v) (by decide) hj hi
  rwa [show 16 + 8 * 1 + j = 24 + j by omega] at h
theorem bv_vw_u32 (X : bv_X) {j i : Nat} {v : Int32} (hj : j < 8) (hi : i < 5) : bv_up (bv_vw X) (32 + j) i v = bv_vw (bv_up X 18 (5 * j + i) v) := by
  have h := bv_vw_upp X (k := 2) (v := v) (by decide) hj hi
  rwa [show 16 + 8 * 2 + j = 32 + j by omega] at h
theorem bv_dp_at (Y : bv_X) (q n r j : Nat) : bv_dp Y q n r j = if r = 15 ∧ j < n ∧ ¬ Y 9 j = 0 ∧ Y 10 j = nI q then 0 else Y r j := rfl
theorem bv_dp_0 (Y : bv_X) (q : Nat) : bv_dp Y q 0 = Y := bv_X_ext fun r i => if_neg (by omega)
theorem bv_dp_y {Y : bv_X} {q i : Nat} (h : ¬ Y 9 i = 0 ∧ Y 10 i = nI q) : bv_up (bv_dp Y q i) 15 i 0 = bv_dp Y q (i + 1) := by
  apply bv_X_ext
  intro r j
  rw [bv_up_at, bv_dp_at, bv_dp_at]
  by_cases h1 : r = 15 ∧ j = i
  · obtain ⟨rfl, rfl⟩ := h1
    rw [if_pos ⟨rfl, rfl⟩, if_pos ⟨rfl, by omega, h⟩]
  · rw [if_neg h1]
    by_cases h2 : r = 15 ∧ j < i ∧ ¬ Y 9 j = 0 ∧ Y 10 j = nI q
    · rw [if_pos h2, if_pos ⟨h2.1, by omega, h2.2.2⟩]
    · rw [if_neg h2, if_neg]
      intro h3
      have h4 : j ≠ i := fun h4 => h1 ⟨h3.1, h4⟩
      exact h2 ⟨h3.1, by omega, h3.2.2⟩
theorem bv_dp_n {Y : bv_X} {q i : Nat} (h : ¬ (¬ Y 9 i = 0 ∧ Y 10 i = nI q)) : bv_dp Y q i = bv_dp Y q (i + 1) := by
  apply bv_X_ext
  intro r j
  rw [bv_dp_at, bv_dp_at]
  by_cases h2 : r = 15 ∧ j < i ∧ ¬ Y 9 j = 0 ∧ Y 10 j = nI q
  · rw [if_pos h2, if_pos ⟨h2.1, by omega, h2.2.2⟩]
  · rw [if_neg h2, if_neg]
    intro h3
    have h4 : j ≠ i := fun h4 => h (by rw [← h4]; exact h3.2.2)
    exact h2 ⟨h3.1, by omega, h3.2.2⟩
theorem bv_vw_10 (X : bv_X) (j : Nat) : bv_vw X 10 j = if X 9 j = 0 then -1 else X 10 j := by
  unfold bv_vw
  rw [if_pos rfl]
theorem bv_hol {X : bv_X} {j q : Nat} (hq : q < 2 ^ 31) : bv_vw X 10 j = nI q ↔ (¬ X 9 j = 0 ∧ X 10 j = nI q) := by
  rw [bv_vw_10]
  by_cases h : X 9 j = 0
  · rw [if_pos h]
    exact ⟨fun e => absurd e.symm (bv_m1 hq), fun e => absurd h e.1⟩
  · rw [if_neg h]
    exact ⟨fun e => ⟨h, e⟩, fun e => e.2⟩
theorem bv_hb_v {n : Nat} {X : bv_X} (hI : bv_I n X) (o : Int32) : bv_hb X o = decide (¬ o < 0 ∧ ¬ X 0 1 ≤ o ∧ ¬ 30 ≤ o) := by
  obtain ⟨c, h1, h2⟩ := bv_I_cnt hI
  unfold bv_hb
  apply decide_eq_decide.mpr
  constructor
  · rintro ⟨a, b⟩
    refine ⟨a, b, ?_⟩
    rw [h2] at b
    obtain ⟨j, hj, rfl⟩ := bv_ofN (by omega) a rfl b
    exact nI_ge (a := j) (b := 30) (by omega) (by decide)
  · rintro ⟨a, b, -⟩
    exact ⟨a, b⟩
theorem bv_hb_m {n : Nat} {X : bv_X} (hI : bv_I n X) (o : Int32) : bv_rb o 0 (X 0 1 - 1) = bv_hb X o := by
  obtain ⟨c, h1, h2⟩ := bv_I_cnt hI
  unfold bv_hb bv_rb
  apply decide_eq_decide.mpr
  rw [h2]
  constructor
  · rintro ⟨a, b⟩
    refine ⟨a, ?_⟩
    obtain ⟨j, hj, rfl⟩ := nI_of a
    by_cases hc : c = 0
    · subst hc
      have : (nI 0 - 1 : Int32) < nI j := by
        rw [Int32.lt_iff_toInt_lt, nI_toInt hj]
        have e : (nI 0 - 1 : Int32).toInt = -1 := by decide
        omega
      exact absurd this b
    · have e : nI c - 1 = nI (c - 1) := pk_sub (a := c) (b := 1) (by omega)
      rw [e] at b
      intro h
      have h5 := (nI_leI (by omega) hj).mp h
      exact b (nI_lt (by omega) hj)
  · rintro ⟨a, b⟩
    refine ⟨a, ?_⟩
    obtain ⟨j, hj, rfl⟩ := bv_ofN (by omega) a rfl b
    have e : nI c - 1 = nI (c - 1) := pk_sub (a := c) (b := 1) (by omega)
    rw [e]
    exact nI_nlt (by omega) (by omega)
theorem bv_rt_4 (X : bv_X) (j q : Nat) : bv_rt X j q = 0 ∨ bv_rt X j q = 1 ∨ bv_rt X j q = 3 := by
  unfold bv_rt
  split
  · exact Or.inr (Or.inr rfl)
  · split
    · split
      · exact Or.inl rfl
      · exact Or.inr (Or.inr rfl)
    · split
      · split
        · exact Or.inl rfl
        · exact Or.inr (Or.inr rfl)
      · split
        · exact Or.inr (Or.inl rfl)
        · exact Or.inr (Or.inr rfl)
theorem bv_rt_r {X : bv_X} {j q : Nat} (h : ¬ X 9 j = 1) : bv_rt X j q = 3 := by
  unfold bv_rt
  rw [if_pos (Or.inl h)]
end
